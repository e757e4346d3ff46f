
def f_X3_grows_66 (hd : Nat → Int32) (fi : Nat → Int32) (un : Nat → Int32) (sme : Int32) (against : Int32) (came : Int32) (j52 : Nat) (j66 : Nat) (st : Int32 × (Nat → Int32) × (Nat → Int32)) : Int32 × (Nat → Int32) × (Nat → Int32) := match st with | (thn, rd6, bb6) => (if (s_X3_has sme (nI j66)) = 0 then (thn, rd6, bb6) else (if (hd j66) = 8 then (thn, rd6, bb6) else (if ((un j66) &&& against) = 0 then (if ((fi j66) &&& (came ^^^ (-1))) = 0 then (if (s_X3_has thn (hd j66)) = 0 then ((thn ||| (1 <<< ((hd j66) &&& 31))), (upd rd6 ((hd j66) : Int32).toNatClampNeg (nI (j52 + 1))), (upd bb6 ((hd j66) : Int32).toNatClampNeg (nI j66))) else (thn, rd6, bb6)) else (thn, rd6, bb6)) else (thn, rd6, bb6))))
def f_X3_grows_52 (n : Nat) (hd : Nat → Int32) (fi : Nat → Int32) (un : Nat → Int32) (sme : Int32) (against : Int32) (j52 : Nat) (st : Int32 × (Nat → Int32) × (Nat → Int32)) : Int32 × (Nat → Int32) × (Nat → Int32) := match st with | (came, rd5, bb5) => (match itr (f_X3_grows_66 hd fi un sme against came j52) (came, rd5, bb5) n with | (thn, rd6, bb6) => (thn, rd6, bb6))
def f_X3_grows_3 (facts : Int32) (j3 : Nat) (st : (Nat → Int32) × (Nat → Int32)) : (Nat → Int32) × (Nat → Int32) := match st with | (rd3, bb3) => (if (s_X3_has facts (nI j3)) = 0 then ((upd rd3 j3 (-1)), (upd bb3 j3 (-9))) else ((upd rd3 j3 0), (upd bb3 j3 (-9))))
def s_X3_grows (n : Nat) (hd : Nat → Int32) (fi : Nat → Int32) (un : Nat → Int32) (rd : Nat → Int32) (bb : Nat → Int32) (facts : Int32) (sme : Int32) (against : Int32) : Int32 × (Nat → Int32) × (Nat → Int32) := (match itr (f_X3_grows_3 facts) (rd, bb) 8 with | (rd3, bb3) => (match itr (f_X3_grows_52 n hd fi un sme against) (facts, rd3, bb3) 8 with | (came, rd5, bb5) => (came, rd5, bb5)))
set_option maxHeartbeats 4000000 in
set_option maxRecDepth 100000 in
theorem c_X3_grows (l : Launch) (D : va_G) (h : Nat → Nat) (cA : Nat → ClassId) (n : Nat) (hd : Nat → Int32) (fi : Nat → Int32) (un : Nat → Int32) (on : Int32) (may : Int32) (asd : Int32) (tx : Nat → Int32) (td : Int32) (kp : Nat → Int32) (ko : Nat → Int32) (ka : Nat → Int32) (tr : Int64) (pat : Int32) (pfr : Int32) (rhd : Nat → Int32) (rif : Nat → Int32) (rul : Nat → Int32) (prr : Int32) (prm : Int32) (rd : Nat → Int32) (bb : Nat → Int32) (nw : Nat → Int32) (ot : Nat → Int32) (ev : Nat → Int32) (od : Nat → Int32) (facts : Int32) (sme : Int32) (against : Int32) (hn : n ≤ 10) (hhd : ∀ k : Nat, k < n → ¬ hd k = 8 → vp_in (hd k) 8) (sz : Nat) : Met l yX3_grows wsX3_grows ({ frames := 1, cells := 0, slots := 0, locals := 21 }) (va_Pc [.ref (h 0), .int facts, .int sme, .int against] (cPre D (tM h cA) (wM h cA (nI n) hd fi un on may asd tx td kp ko ka tr pat pfr rhd rif rul prr prm rd bb nw ot ev od) sz)) (va_Qi (fun (r : Int32) (u : (Nat → Int32) × (Nat → Int32)) => (r, u.1, u.2) = s_X3_grows n hd fi un rd bb facts sme against) (rwB D (fun u : (Nat → Int32) × (Nat → Int32) => (wM h cA (nI n) hd fi un on may asd tx td kp ko ka tr pat pfr rhd rif rul prr prm u.1 u.2 nw ot ev od)) (va_A (wM h cA (nI n) hd fi un on may asd tx td kp ko ka tr pat pfr rhd rif rul prr prm rd bb nw ot ev od) sz)) (va_A (wM h cA (nI n) hd fi un on may asd tx td kp ko ka tr pat pfr rhd rif rul prr prm rd bb nw ot ev od) sz)) 0 0 (va_A (wM h cA (nI n) hd fi un on may asd tx td kp ko ka tr pat pfr rhd rif rul prr prm rd bb nw ot ev od) sz) := by
  refine Met.ofW (cc := cX3_grows) (maxL := 9) (ret := (some .int)) (by decide) rfl ?_
  intro p e s m args below meth c s₁ B hml hv
  obtain ⟨rfl, hsz, hP, hK, hD, hN⟩ := hv
  have hx := B.exec
  have hb := B.bytes
  have hr := B.returns
  have hts := atoms_spec (ws := wsX3_grows) B.pre
  have hown : s.vm.findClass RX3 = some m.cls := findClass_of_methodNamed B.named
  have hlocks := B.notSynchronized
  have hinX3 : ∀ w ∈ wsX30, w ∈ wsX3_grows := fun w h => List.mem_cons_of_mem _ (List.mem_append_right _ h)
  subst hsz
  replace hD := hD.self (sz := s.heap.size)
  generalize hAe : va_A (wM h cA (nI n) hd fi un on may asd tx td kp ko ka tr pat pfr rhd rif rul prr prm rd bb nw ot ev od) s.heap.size = A at hD ⊢
  have hA : ∀ q : Nat, s.heap.size ≤ q → A q := fun q h => by rw [← hAe]; exact Or.inr h
  have hS : va_S A s.heap s.heap [] := va_S.rf
  have hl := lv_entry ([.ref (h 0), .int facts, .int sme, .int against]) (n := 9) (Nat.le_of_ble_eq_true rfl)
  rw [lg_entry_eq]
  generalize (lg_sl ([.ref (h 0), .int facts, .int sme, .int against]) ++ List.replicate (9 - (lg_sl ([.ref (h 0), .int facts, .int sme, .int against])).length) Slot.unset).toArray = ls at hl ⊢
  replace hl : lv_has ls 9 [(0, .ref (h 0)), (1, .int facts), (2, .int sme), (3, .int against)] := hl
  have hKe := hK.sub (tys' := []) [] rfl
  refine lv_iconst (v := 0) hx hb dX3_grows_0 (by decide) ?_
  refine lv_istore (lv' := [(4, .int 0), (0, .ref (h 0)), (1, .int facts), (2, .int sme), (3, .int against)]) hx hb dX3_grows_1 hl (by decide) rfl (fun ls hl => ?_)
  have lp3_1 : ∀ (z_1 j3 : Nat), j3 + z_1 = 8 → ∀ (rd3 : Nat → Int32) (bb3 : Nat → Int32), (rd3, bb3) = itr (f_X3_grows_3 facts) (rd, bb) j3 → ∀  (H : Heap) (locs : List Loc), va_P D vwCl (wM h cA (nI n) hd fi un on may asd tx td kp ko ka tr pat pfr rhd rif rul prr prm rd3 bb3 nw ot ev od) H → va_D A (wM h cA (nI n) hd fi un on may asd tx td kp ko ka tr pat pfr rhd rif rul prr prm rd3 bb3 nw ot ev od) → va_S A s.heap H locs → ∀ ls : Array Slot, lv_has ls 9 [(0, .ref (h 0)), (1, .int facts), (2, .int sme), (3, .int against), (4, .int (nI j3))] → W p l e (headSpec wsX3_grows ({ frames := 1, cells := 0, slots := 0, locals := 21 })).room s m ([.ref (h 0), .int facts, .int sme, .int against] : List Value).toArray below meth c H locs 0 0 (MQ below (va_Qi (fun (r : Int32) (u : (Nat → Int32) × (Nat → Int32)) => (r, u.1, u.2) = s_X3_grows n hd fi un rd bb facts sme against) (rwB D (fun u : (Nat → Int32) × (Nat → Int32) => (wM h cA (nI n) hd fi un on may asd tx td kp ko ka tr pat pfr rhd rif rul prr prm u.1 u.2 nw ot ev od)) A) A) ([.ref (h 0), .int facts, .int sme, .int against] : List Value).toArray s 0 0 A) (F0 m 3 ls []) := by
    intro z_1
    induction z_1 with
    | zero =>
      intro j3 hj3 rd3 bb3 he3   H locs hP hD hS ls hl
      obtain rfl : 8 = j3 := by omega
      refine lv_iload hx hb dX3_grows_3 (lv_at hl 4 rfl) ?_
      refine lv_bipush (v := 8) hx hb dX3_grows_5 (by decide) ?_
      refine lv_icmp_ge (tgt := 46) hx hb dX3_grows_7 (by decide) (fun _ => ?_) (fun hh_3 => absurd (nI_le (a := 8) (b := 8) (by omega) (by omega)) hh_3)
      refine lv_iload_n hx hb dX3_grows_46 rfl (lv_at hl 1 rfl) ?_
      refine lv_istore (lv' := [(4, .int facts), (0, .ref (h 0)), (1, .int facts), (2, .int sme), (3, .int against)]) hx hb dX3_grows_47 hl (by decide) rfl (fun ls hl => ?_)
      refine lv_iconst (v := 1) hx hb dX3_grows_49 (by decide) ?_
      refine lv_istore (lv' := [(5, .int 1), (4, .int facts), (0, .ref (h 0)), (1, .int facts), (2, .int sme), (3, .int against)]) hx hb dX3_grows_50 hl (by decide) rfl (fun ls hl => ?_)
      have lp52_4 : ∀ (z_4 j52 : Nat), j52 + z_4 = 8 → ∀ (came : Int32) (rd5 : Nat → Int32) (bb5 : Nat → Int32), (came, rd5, bb5) = itr (f_X3_grows_52 n hd fi un sme against) (facts, rd3, bb3) j52 → ∀  (H : Heap) (locs : List Loc), va_P D vwCl (wM h cA (nI n) hd fi un on may asd tx td kp ko ka tr pat pfr rhd rif rul prr prm rd5 bb5 nw ot ev od) H → va_D A (wM h cA (nI n) hd fi un on may asd tx td kp ko ka tr pat pfr rhd rif rul prr prm rd5 bb5 nw ot ev od) → va_S A s.heap H locs → ∀ ls : Array Slot, lv_has ls 9 [(0, .ref (h 0)), (1, .int facts), (2, .int sme), (3, .int against), (4, .int came), (5, .int (nI (j52 + 1)))] → W p l e (headSpec wsX3_grows ({ frames := 1, cells := 0, slots := 0, locals := 21 })).room s m ([.ref (h 0), .int facts, .int sme, .int against] : List Value).toArray below meth c H locs 0 0 (MQ below (va_Qi (fun (r : Int32) (u : (Nat → Int32) × (Nat → Int32)) => (r, u.1, u.2) = s_X3_grows n hd fi un rd bb facts sme against) (rwB D (fun u : (Nat → Int32) × (Nat → Int32) => (wM h cA (nI n) hd fi un on may asd tx td kp ko ka tr pat pfr rhd rif rul prr prm u.1 u.2 nw ot ev od)) A) A) ([.ref (h 0), .int facts, .int sme, .int against] : List Value).toArray s 0 0 A) (F0 m 52 ls []) := by
        intro z_4
        induction z_4 with
        | zero =>
          intro j52 hj52 came rd5 bb5 he52   H locs hP hD hS ls hl
          obtain rfl : 8 = j52 := by omega
          refine lv_iload hx hb dX3_grows_52 (lv_at hl 5 rfl) ?_
          refine lv_bipush (v := 8) hx hb dX3_grows_54 (by decide) ?_
          refine lv_icmp_gt (tgt := 208) hx hb dX3_grows_56 (by decide) (fun _ => ?_) (fun hh_6 => absurd (nI_lt (a := 8) (b := 8 + 1) (by omega) (by omega)) hh_6)
          refine lv_iload hx hb dX3_grows_208 (lv_at hl 4 rfl) ?_
          exact rw_iret hx hb hr hS hlocks (rd5, bb5) (show s_X3_grows n hd fi un rd bb facts sme against = (came, rd5, bb5) from by (unfold s_X3_grows; (try dsimp only); (try rw [← he3]); (try dsimp only); (try rw [← he52]); (try dsimp only); first | done | rfl)).symm hP hD dX3_grows_210
        | succ z_4 ih52 =>
          intro j52 hj52 came rd5 bb5 he52   H locs hP hD hS ls hl
          refine lv_iload hx hb dX3_grows_52 (lv_at hl 5 rfl) ?_
          refine lv_bipush (v := 8) hx hb dX3_grows_54 (by decide) ?_
          refine lv_icmp_gt (tgt := 208) hx hb dX3_grows_56 (by decide) (fun hh_8 => absurd hh_8 (nI_nlt (a := 8) (b := j52 + 1) (by omega) (by omega))) (fun _ => ?_)
          refine lv_iload hx hb dX3_grows_59 (lv_at hl 4 rfl) ?_
          refine lv_istore (lv' := [(6, .int came), (0, .ref (h 0)), (1, .int facts), (2, .int sme), (3, .int against), (4, .int came), (5, .int (nI (j52 + 1)))]) hx hb dX3_grows_61 hl (by decide) rfl (fun ls hl => ?_)
          refine lv_iconst (v := 0) hx hb dX3_grows_63 (by decide) ?_
          refine lv_istore (lv' := [(7, .int 0), (6, .int came), (0, .ref (h 0)), (1, .int facts), (2, .int sme), (3, .int against), (4, .int came), (5, .int (nI (j52 + 1)))]) hx hb dX3_grows_64 hl (by decide) rfl (fun ls hl => ?_)
          have lp66_9 : ∀ (z_9 j66 : Nat), j66 + z_9 = n → ∀ (thn : Int32) (rd6 : Nat → Int32) (bb6 : Nat → Int32), (thn, rd6, bb6) = itr (f_X3_grows_66 hd fi un sme against came j52) (came, rd5, bb5) j66 → ∀  (H : Heap) (locs : List Loc), va_P D vwCl (wM h cA (nI n) hd fi un on may asd tx td kp ko ka tr pat pfr rhd rif rul prr prm rd6 bb6 nw ot ev od) H → va_D A (wM h cA (nI n) hd fi un on may asd tx td kp ko ka tr pat pfr rhd rif rul prr prm rd6 bb6 nw ot ev od) → va_S A s.heap H locs → ∀ ls : Array Slot, lv_has ls 9 [(0, .ref (h 0)), (1, .int facts), (2, .int sme), (3, .int against), (4, .int came), (5, .int (nI (j52 + 1))), (6, .int thn), (7, .int (nI j66))] → W p l e (headSpec wsX3_grows ({ frames := 1, cells := 0, slots := 0, locals := 21 })).room s m ([.ref (h 0), .int facts, .int sme, .int against] : List Value).toArray below meth c H locs 0 0 (MQ below (va_Qi (fun (r : Int32) (u : (Nat → Int32) × (Nat → Int32)) => (r, u.1, u.2) = s_X3_grows n hd fi un rd bb facts sme against) (rwB D (fun u : (Nat → Int32) × (Nat → Int32) => (wM h cA (nI n) hd fi un on may asd tx td kp ko ka tr pat pfr rhd rif rul prr prm u.1 u.2 nw ot ev od)) A) A) ([.ref (h 0), .int facts, .int sme, .int against] : List Value).toArray s 0 0 A) (F0 m 66 ls []) := by
            intro z_9
            induction z_9 with
            | zero =>
              intro j66 hj66 thn rd6 bb6 he66   H locs hP hD hS ls hl
              obtain rfl : n = j66 := by omega
              refine lv_iload hx hb dX3_grows_66 (lv_at hl 7 rfl) ?_
              refine lv_aload_n hx hb dX3_grows_68 rfl (lv_at hl 0 rfl) ?_
              refine va_get (D := D) (ci := 3) (v := .int (nI n)) (C := RX3) (T := TX3) (N := 26) hx hb hts hinX3 hown hK hP 0 rfl rfl 0 (by decide) (hts (.fieldLink RX3 59 "HoldUnlessModel" "rules" "I") (by decide +kernel)) (fun _ h9 => h9) rfl dX3_grows_69 ?_
              refine lv_icmp_ge (tgt := 198) hx hb dX3_grows_72 (by decide) (fun _ => ?_) (fun hh_11 => absurd (nI_le (a := n) (b := n) (by omega) (by omega)) hh_11)
              refine lv_iload hx hb dX3_grows_198 (lv_at hl 6 rfl) ?_
              refine lv_istore (lv' := [(4, .int thn), (0, .ref (h 0)), (1, .int facts), (2, .int sme), (3, .int against), (5, .int (nI (j52 + 1))), (6, .int thn), (7, .int (nI n))]) hx hb dX3_grows_200 hl (by decide) rfl (fun ls hl => ?_)
              refine lv_iinc (v := nI ((j52 + 1) + 1)) (lv' := [(5, .int (nI ((j52 + 1) + 1))), (4, .int thn), (0, .ref (h 0)), (1, .int facts), (2, .int sme), (3, .int against), (6, .int thn), (7, .int (nI n))]) hx hb dX3_grows_202 hl (k := 5) rfl (inc_nI (j52 + 1)) (by decide) rfl (fun ls hl => ?_)
              refine lv_goto (tgt := 52) hx hb dX3_grows_205 (by decide) ?_
              exact ih52 (j52 + 1) (by omega) thn rd6 bb6 (itr_step he52 (by (unfold f_X3_grows_52; (try dsimp only); (try rw [← he66]); (try dsimp only); first | done | rfl)))   _ _ hP hD hS _ (lv_sub hl [2, 3, 4, 5, 1, 0] rfl)
            | succ z_9 ih66 =>
              intro j66 hj66 thn rd6 bb6 he66   H locs hP hD hS ls hl
              refine lv_iload hx hb dX3_grows_66 (lv_at hl 7 rfl) ?_
              refine lv_aload_n hx hb dX3_grows_68 rfl (lv_at hl 0 rfl) ?_
              refine va_get (D := D) (ci := 3) (v := .int (nI n)) (C := RX3) (T := TX3) (N := 26) hx hb hts hinX3 hown hK hP 0 rfl rfl 0 (by decide) (hts (.fieldLink RX3 59 "HoldUnlessModel" "rules" "I") (by decide +kernel)) (fun _ h9 => h9) rfl dX3_grows_69 ?_
              refine lv_icmp_ge (tgt := 198) hx hb dX3_grows_72 (by decide) (fun hh_13 => absurd hh_13 (nI_ge (a := j66) (b := n) (by omega) (by omega))) (fun _ => ?_)
              refine lv_iload_n hx hb dX3_grows_75 rfl (lv_at hl 2 rfl) ?_
              refine lv_iload hx hb dX3_grows_76 (lv_at hl 7 rfl) ?_
              refine ro_i (D := D) (va_runS (As := [.int sme, .int (nI j66)]) (rest := []) ⟨hx, hb, hml, hown, hts⟩ (c_X3_has l D sme (nI j66)  _) (va_cwS 2 hts gX3_grows_X3_has rfl rfl rfl (by decide +kernel) ⟨Nat.le_of_ble_eq_true rfl, Nat.le_of_ble_eq_true rfl⟩) ⟨cPre.blind, cPre.mk vP0 hKe vD0 hN⟩ rfl rfl hl.1 rfl (lv_room (Nat.le_of_ble_eq_true rfl)) dX3_grows_78 ⟨Nat.zero_le _, Nat.zero_le _⟩) hS hA (fun H locs hkp0 hS => ?_)
              replace hP := hkp0 _ hP
              refine lv_if_eq (tgt := 127) hx hb dX3_grows_81 (by decide) (fun c_81_14 => ?_) (fun c_81_14 => ?_)
              · refine lv_iconst (v := 0) hx hb dX3_grows_127 (by decide) ?_
                refine lv_istore (lv' := [(8, .int 0), (0, .ref (h 0)), (1, .int facts), (2, .int sme), (3, .int against), (4, .int came), (5, .int (nI (j52 + 1))), (6, .int thn), (7, .int (nI j66))]) hx hb dX3_grows_128 hl (by decide) rfl (fun ls hl => ?_)
                refine lv_iload hx hb dX3_grows_130 (lv_at hl 0 rfl) ?_
                refine lv_if_eq (tgt := 192) hx hb dX3_grows_132 (by decide) (fun _ => ?_) (fun hh_16 => absurd (by decide) hh_16)
                refine lv_iinc (v := nI (j66 + 1)) (lv' := [(7, .int (nI (j66 + 1))), (8, .int 0), (0, .ref (h 0)), (1, .int facts), (2, .int sme), (3, .int against), (4, .int came), (5, .int (nI (j52 + 1))), (6, .int thn)]) hx hb dX3_grows_192 hl (k := 8) rfl (inc_nI j66) (by decide) rfl (fun ls hl => ?_)
                refine lv_goto (tgt := 66) hx hb dX3_grows_195 (by decide) ?_
                exact ih66 (j66 + 1) (by omega) thn rd6 bb6 (itr_step he66 (by (unfold f_X3_grows_66; (try dsimp only); (try rw [if_pos c_81_14]); first | done | rfl)))   _ _ hP hD hS _ (lv_sub hl [2, 3, 4, 5, 6, 7, 8, 0] rfl)
              · refine lv_aload_n hx hb dX3_grows_84 rfl (lv_at hl 0 rfl) ?_
                refine va_get (D := D) (ci := 3) (v := .ref (h 1)) (C := RX3) (T := TX3) (N := 26) hx hb hts hinX3 hown hK hP 0 rfl rfl 1 (by decide) (hts (.fieldLink RX3 7 "HoldUnlessModel" "head" "[I") (by decide +kernel)) (fun _ h9 => h9) rfl dX3_grows_85 ?_
                refine lv_iload hx hb dX3_grows_88 (lv_at hl 7 rfl) ?_
                refine wa_ild hx hb hK hP 1 0 rfl rfl j66 rfl (by omega) (by decide) dX3_grows_90 ?_
                refine lv_bipush (v := 8) hx hb dX3_grows_91 (by decide) ?_
                refine lv_icmp_eq (tgt := 127) hx hb dX3_grows_93 (by decide) (fun c_93_17 => ?_) (fun c_93_17 => ?_)
                · refine lv_iconst (v := 0) hx hb dX3_grows_127 (by decide) ?_
                  refine lv_istore (lv' := [(8, .int 0), (0, .ref (h 0)), (1, .int facts), (2, .int sme), (3, .int against), (4, .int came), (5, .int (nI (j52 + 1))), (6, .int thn), (7, .int (nI j66))]) hx hb dX3_grows_128 hl (by decide) rfl (fun ls hl => ?_)
                  refine lv_iload hx hb dX3_grows_130 (lv_at hl 0 rfl) ?_
                  refine lv_if_eq (tgt := 192) hx hb dX3_grows_132 (by decide) (fun _ => ?_) (fun hh_19 => absurd (by decide) hh_19)
                  refine lv_iinc (v := nI (j66 + 1)) (lv' := [(7, .int (nI (j66 + 1))), (8, .int 0), (0, .ref (h 0)), (1, .int facts), (2, .int sme), (3, .int against), (4, .int came), (5, .int (nI (j52 + 1))), (6, .int thn)]) hx hb dX3_grows_192 hl (k := 8) rfl (inc_nI j66) (by decide) rfl (fun ls hl => ?_)
                  refine lv_goto (tgt := 66) hx hb dX3_grows_195 (by decide) ?_
                  exact ih66 (j66 + 1) (by omega) thn rd6 bb6 (itr_step he66 (by (unfold f_X3_grows_66; (try dsimp only); (try rw [if_neg c_81_14]); (try rw [if_pos c_93_17]); first | done | rfl)))   _ _ hP hD hS _ (lv_sub hl [2, 3, 4, 5, 6, 7, 8, 0] rfl)
                · refine lv_aload_n hx hb dX3_grows_96 rfl (lv_at hl 0 rfl) ?_
                  refine va_get (D := D) (ci := 3) (v := .ref (h 3)) (C := RX3) (T := TX3) (N := 26) hx hb hts hinX3 hown hK hP 0 rfl rfl 3 (by decide) (hts (.fieldLink RX3 16 "HoldUnlessModel" "unless" "[I") (by decide +kernel)) (fun _ h9 => h9) rfl dX3_grows_97 ?_
                  refine lv_iload hx hb dX3_grows_100 (lv_at hl 7 rfl) ?_
                  refine wa_ild hx hb hK hP 3 2 rfl rfl j66 rfl (by omega) (by decide) dX3_grows_102 ?_
                  refine lv_iload_n hx hb dX3_grows_103 rfl (lv_at hl 3 rfl) ?_
                  refine lv_iand hx hb dX3_grows_104 ?_
                  refine lv_if_ne (tgt := 127) hx hb dX3_grows_105 (by decide) (fun c_105_20 => ?_) (fun c_105_20 => ?_)
                  · refine lv_iconst (v := 0) hx hb dX3_grows_127 (by decide) ?_
                    refine lv_istore (lv' := [(8, .int 0), (0, .ref (h 0)), (1, .int facts), (2, .int sme), (3, .int against), (4, .int came), (5, .int (nI (j52 + 1))), (6, .int thn), (7, .int (nI j66))]) hx hb dX3_grows_128 hl (by decide) rfl (fun ls hl => ?_)
                    refine lv_iload hx hb dX3_grows_130 (lv_at hl 0 rfl) ?_
                    refine lv_if_eq (tgt := 192) hx hb dX3_grows_132 (by decide) (fun _ => ?_) (fun hh_22 => absurd (by decide) hh_22)
                    refine lv_iinc (v := nI (j66 + 1)) (lv' := [(7, .int (nI (j66 + 1))), (8, .int 0), (0, .ref (h 0)), (1, .int facts), (2, .int sme), (3, .int against), (4, .int came), (5, .int (nI (j52 + 1))), (6, .int thn)]) hx hb dX3_grows_192 hl (k := 8) rfl (inc_nI j66) (by decide) rfl (fun ls hl => ?_)
                    refine lv_goto (tgt := 66) hx hb dX3_grows_195 (by decide) ?_
                    exact ih66 (j66 + 1) (by omega) thn rd6 bb6 (itr_step he66 (by (unfold f_X3_grows_66; (try dsimp only); (try rw [if_neg c_81_14]); (try rw [if_neg c_93_17]); (try rw [if_neg c_105_20]); first | done | rfl)))   _ _ hP hD hS _ (lv_sub hl [2, 3, 4, 5, 6, 7, 8, 0] rfl)
                  · refine lv_aload_n hx hb dX3_grows_108 rfl (lv_at hl 0 rfl) ?_
                    refine va_get (D := D) (ci := 3) (v := .ref (h 2)) (C := RX3) (T := TX3) (N := 26) hx hb hts hinX3 hown hK hP 0 rfl rfl 2 (by decide) (hts (.fieldLink RX3 13 "HoldUnlessModel" "ifs" "[I") (by decide +kernel)) (fun _ h9 => h9) rfl dX3_grows_109 ?_
                    refine lv_iload hx hb dX3_grows_112 (lv_at hl 7 rfl) ?_
                    refine wa_ild hx hb hK hP 2 1 rfl rfl j66 rfl (by omega) (by decide) dX3_grows_114 ?_
                    refine lv_iload hx hb dX3_grows_115 (lv_at hl 4 rfl) ?_
                    refine lv_iconst (v := (-1)) hx hb dX3_grows_117 (by decide) ?_
                    refine lv_ixor hx hb dX3_grows_118 ?_
                    refine lv_iand hx hb dX3_grows_119 ?_
                    refine lv_if_ne (tgt := 127) hx hb dX3_grows_120 (by decide) (fun c_120_23 => ?_) (fun c_120_23 => ?_)
                    · refine lv_iconst (v := 0) hx hb dX3_grows_127 (by decide) ?_
                      refine lv_istore (lv' := [(8, .int 0), (0, .ref (h 0)), (1, .int facts), (2, .int sme), (3, .int against), (4, .int came), (5, .int (nI (j52 + 1))), (6, .int thn), (7, .int (nI j66))]) hx hb dX3_grows_128 hl (by decide) rfl (fun ls hl => ?_)
                      refine lv_iload hx hb dX3_grows_130 (lv_at hl 0 rfl) ?_
                      refine lv_if_eq (tgt := 192) hx hb dX3_grows_132 (by decide) (fun _ => ?_) (fun hh_25 => absurd (by decide) hh_25)
                      refine lv_iinc (v := nI (j66 + 1)) (lv' := [(7, .int (nI (j66 + 1))), (8, .int 0), (0, .ref (h 0)), (1, .int facts), (2, .int sme), (3, .int against), (4, .int came), (5, .int (nI (j52 + 1))), (6, .int thn)]) hx hb dX3_grows_192 hl (k := 8) rfl (inc_nI j66) (by decide) rfl (fun ls hl => ?_)
                      refine lv_goto (tgt := 66) hx hb dX3_grows_195 (by decide) ?_
                      exact ih66 (j66 + 1) (by omega) thn rd6 bb6 (itr_step he66 (by (unfold f_X3_grows_66; (try dsimp only); (try rw [if_neg c_81_14]); (try rw [if_neg c_93_17]); (try rw [if_pos c_105_20]); (try rw [if_neg c_120_23]); first | done | rfl)))   _ _ hP hD hS _ (lv_sub hl [2, 3, 4, 5, 6, 7, 8, 0] rfl)
                    · refine lv_iconst (v := 1) hx hb dX3_grows_123 (by decide) ?_
                      refine lv_goto (tgt := 128) hx hb dX3_grows_124 (by decide) ?_
                      refine lv_istore (lv' := [(8, .int 1), (0, .ref (h 0)), (1, .int facts), (2, .int sme), (3, .int against), (4, .int came), (5, .int (nI (j52 + 1))), (6, .int thn), (7, .int (nI j66))]) hx hb dX3_grows_128 hl (by decide) rfl (fun ls hl => ?_)
                      refine lv_iload hx hb dX3_grows_130 (lv_at hl 0 rfl) ?_
                      refine lv_if_eq (tgt := 192) hx hb dX3_grows_132 (by decide) (fun hh_27 => absurd hh_27 (by decide)) (fun _ => ?_)
                      refine lv_iload hx hb dX3_grows_135 (lv_at hl 7 rfl) ?_
                      refine lv_aload_n hx hb dX3_grows_137 rfl (lv_at hl 1 rfl) ?_
                      refine va_get (D := D) (ci := 3) (v := .ref (h 1)) (C := RX3) (T := TX3) (N := 26) hx hb hts hinX3 hown hK hP 0 rfl rfl 1 (by decide) (hts (.fieldLink RX3 7 "HoldUnlessModel" "head" "[I") (by decide +kernel)) (fun _ h9 => h9) rfl dX3_grows_138 ?_
                      refine lv_iload hx hb dX3_grows_141 (lv_at hl 8 rfl) ?_
                      refine wa_ild hx hb hK hP 1 0 rfl rfl j66 rfl (by omega) (by decide) dX3_grows_143 ?_
                      refine ro_i (D := D) (va_runS (As := [.int thn, .int (hd j66)]) (rest := []) ⟨hx, hb, hml, hown, hts⟩ (c_X3_has l D thn (hd j66)  _) (va_cwS 2 hts gX3_grows_X3_has rfl rfl rfl (by decide +kernel) ⟨Nat.le_of_ble_eq_true rfl, Nat.le_of_ble_eq_true rfl⟩) ⟨cPre.blind, cPre.mk vP0 hKe vD0 hN⟩ rfl rfl hl.1 rfl (lv_room (Nat.le_of_ble_eq_true rfl)) dX3_grows_144 ⟨Nat.zero_le _, Nat.zero_le _⟩) hS hA (fun H locs hkp0 hS => ?_)
                      replace hP := hkp0 _ hP
                      refine lv_if_ne (tgt := 192) hx hb dX3_grows_147 (by decide) (fun c_147_28 => ?_) (fun c_147_28 => ?_)
                      · refine lv_iinc (v := nI (j66 + 1)) (lv' := [(7, .int (nI (j66 + 1))), (8, .int 1), (0, .ref (h 0)), (1, .int facts), (2, .int sme), (3, .int against), (4, .int came), (5, .int (nI (j52 + 1))), (6, .int thn)]) hx hb dX3_grows_192 hl (k := 8) rfl (inc_nI j66) (by decide) rfl (fun ls hl => ?_)
                        refine lv_goto (tgt := 66) hx hb dX3_grows_195 (by decide) ?_
                        exact ih66 (j66 + 1) (by omega) thn rd6 bb6 (itr_step he66 (by (unfold f_X3_grows_66; (try dsimp only); (try rw [if_neg c_81_14]); (try rw [if_neg c_93_17]); (try rw [if_pos c_105_20]); (try rw [if_pos c_120_23]); (try rw [if_neg c_147_28]); first | done | rfl)))   _ _ hP hD hS _ (lv_sub hl [2, 3, 4, 5, 6, 7, 8, 0] rfl)
                      · refine lv_iload hx hb dX3_grows_150 (lv_at hl 7 rfl) ?_
                        refine lv_iconst (v := 1) hx hb dX3_grows_152 (by decide) ?_
                        refine lv_aload_n hx hb dX3_grows_153 rfl (lv_at hl 1 rfl) ?_
                        refine va_get (D := D) (ci := 3) (v := .ref (h 1)) (C := RX3) (T := TX3) (N := 26) hx hb hts hinX3 hown hK hP 0 rfl rfl 1 (by decide) (hts (.fieldLink RX3 7 "HoldUnlessModel" "head" "[I") (by decide +kernel)) (fun _ h9 => h9) rfl dX3_grows_154 ?_
                        refine lv_iload hx hb dX3_grows_157 (lv_at hl 8 rfl) ?_
                        refine wa_ild hx hb hK hP 1 0 rfl rfl j66 rfl (by omega) (by decide) dX3_grows_159 ?_
                        refine lv_ishl hx hb dX3_grows_160 ?_
                        refine lv_ior hx hb dX3_grows_161 ?_
                        refine lv_istore (lv' := [(6, .int (thn ||| (1 <<< ((hd j66) &&& 31)))), (8, .int 1), (0, .ref (h 0)), (1, .int facts), (2, .int sme), (3, .int against), (4, .int came), (5, .int (nI (j52 + 1))), (7, .int (nI j66))]) hx hb dX3_grows_162 hl (by decide) rfl (fun ls hl => ?_)
                        refine lv_aload_n hx hb dX3_grows_164 rfl (lv_at hl 2 rfl) ?_
                        refine va_get (D := D) (ci := 3) (v := .ref (h 11)) (C := RX3) (T := TX3) (N := 26) hx hb hts hinX3 hown hK hP 0 rfl rfl 20 (by decide) (hts (.fieldLink RX3 41 "HoldUnlessModel" "round" "[I") (by decide +kernel)) (fun _ h9 => h9) rfl dX3_grows_165 ?_
                        refine lv_aload_n hx hb dX3_grows_168 rfl (lv_at hl 2 rfl) ?_
                        refine va_get (D := D) (ci := 3) (v := .ref (h 1)) (C := RX3) (T := TX3) (N := 26) hx hb hts hinX3 hown hK hP 0 rfl rfl 1 (by decide) (hts (.fieldLink RX3 7 "HoldUnlessModel" "head" "[I") (by decide +kernel)) (fun _ h9 => h9) rfl dX3_grows_169 ?_
                        refine lv_iload hx hb dX3_grows_172 (lv_at hl 8 rfl) ?_
                        refine wa_ild hx hb hK hP 1 0 rfl rfl j66 rfl (by omega) (by decide) dX3_grows_174 ?_
                        refine lv_iload hx hb dX3_grows_175 (lv_at hl 7 rfl) ?_
                        refine va_iast hx hb hK hP hD hS 11 10 rfl rfl ((hhd j66 (by omega) c_93_17)) dX3_grows_177 (fun H locs hP hD hS => ?_)
                        replace hP : va_P D vwCl (wM h cA (nI n) hd fi un on may asd tx td kp ko ka tr pat pfr rhd rif rul prr prm (upd rd6 ((hd j66) : Int32).toNatClampNeg (nI (j52 + 1))) bb6 nw ot ev od) H := hP
                        replace hD : va_D A (wM h cA (nI n) hd fi un on may asd tx td kp ko ka tr pat pfr rhd rif rul prr prm (upd rd6 ((hd j66) : Int32).toNatClampNeg (nI (j52 + 1))) bb6 nw ot ev od) := hD
                        refine lv_aload_n hx hb dX3_grows_178 rfl (lv_at hl 2 rfl) ?_
                        refine va_get (D := D) (ci := 3) (v := .ref (h 12)) (C := RX3) (T := TX3) (N := 26) hx hb hts hinX3 hown hK hP 0 rfl rfl 21 (by decide) (hts (.fieldLink RX3 44 "HoldUnlessModel" "by" "[I") (by decide +kernel)) (fun _ h9 => h9) rfl dX3_grows_179 ?_
                        refine lv_aload_n hx hb dX3_grows_182 rfl (lv_at hl 2 rfl) ?_
                        refine va_get (D := D) (ci := 3) (v := .ref (h 1)) (C := RX3) (T := TX3) (N := 26) hx hb hts hinX3 hown hK hP 0 rfl rfl 1 (by decide) (hts (.fieldLink RX3 7 "HoldUnlessModel" "head" "[I") (by decide +kernel)) (fun _ h9 => h9) rfl dX3_grows_183 ?_
                        refine lv_iload hx hb dX3_grows_186 (lv_at hl 8 rfl) ?_
                        refine wa_ild hx hb hK hP 1 0 rfl rfl j66 rfl (by omega) (by decide) dX3_grows_188 ?_
                        refine lv_iload hx hb dX3_grows_189 (lv_at hl 8 rfl) ?_
                        refine va_iast hx hb hK hP hD hS 12 11 rfl rfl ((hhd j66 (by omega) c_93_17)) dX3_grows_191 (fun H locs hP hD hS => ?_)
                        replace hP : va_P D vwCl (wM h cA (nI n) hd fi un on may asd tx td kp ko ka tr pat pfr rhd rif rul prr prm (upd rd6 ((hd j66) : Int32).toNatClampNeg (nI (j52 + 1))) (upd bb6 ((hd j66) : Int32).toNatClampNeg (nI j66)) nw ot ev od) H := hP
                        replace hD : va_D A (wM h cA (nI n) hd fi un on may asd tx td kp ko ka tr pat pfr rhd rif rul prr prm (upd rd6 ((hd j66) : Int32).toNatClampNeg (nI (j52 + 1))) (upd bb6 ((hd j66) : Int32).toNatClampNeg (nI j66)) nw ot ev od) := hD
                        refine lv_iinc (v := nI (j66 + 1)) (lv' := [(7, .int (nI (j66 + 1))), (6, .int (thn ||| (1 <<< ((hd j66) &&& 31)))), (8, .int 1), (0, .ref (h 0)), (1, .int facts), (2, .int sme), (3, .int against), (4, .int came), (5, .int (nI (j52 + 1)))]) hx hb dX3_grows_192 hl (k := 8) rfl (inc_nI j66) (by decide) rfl (fun ls hl => ?_)
                        refine lv_goto (tgt := 66) hx hb dX3_grows_195 (by decide) ?_
                        exact ih66 (j66 + 1) (by omega) (thn ||| (1 <<< ((hd j66) &&& 31))) (upd rd6 ((hd j66) : Int32).toNatClampNeg (nI (j52 + 1))) (upd bb6 ((hd j66) : Int32).toNatClampNeg (nI j66)) (itr_step he66 (by (unfold f_X3_grows_66; (try dsimp only); (try rw [if_neg c_81_14]); (try rw [if_neg c_93_17]); (try rw [if_pos c_105_20]); (try rw [if_pos c_120_23]); (try rw [if_pos c_147_28]); first | done | rfl)))   _ _ hP hD hS _ (lv_sub hl [3, 4, 5, 6, 7, 8, 1, 0] rfl)
          exact lp66_9 n 0 (by omega) came rd5 bb5 (itr_zero _ _).symm   _ _ hP hD hS _ (lv_sub hl [2, 3, 4, 5, 6, 7, 1, 0] rfl)
      exact lp52_4 8 0 (by omega) facts rd3 bb3 (itr_zero _ _).symm   _ _ hP hD hS _ (lv_sub hl [2, 3, 4, 5, 1, 0] rfl)
    | succ z_1 ih3 =>
      intro j3 hj3 rd3 bb3 he3   H locs hP hD hS ls hl
      refine lv_iload hx hb dX3_grows_3 (lv_at hl 4 rfl) ?_
      refine lv_bipush (v := 8) hx hb dX3_grows_5 (by decide) ?_
      refine lv_icmp_ge (tgt := 46) hx hb dX3_grows_7 (by decide) (fun hh_30 => absurd hh_30 (nI_ge (a := j3) (b := 8) (by omega) (by omega))) (fun _ => ?_)
      refine lv_aload_n hx hb dX3_grows_10 rfl (lv_at hl 0 rfl) ?_
      refine va_get (D := D) (ci := 3) (v := .ref (h 11)) (C := RX3) (T := TX3) (N := 26) hx hb hts hinX3 hown hK hP 0 rfl rfl 20 (by decide) (hts (.fieldLink RX3 41 "HoldUnlessModel" "round" "[I") (by decide +kernel)) (fun _ h9 => h9) rfl dX3_grows_11 ?_
      refine lv_iload hx hb dX3_grows_14 (lv_at hl 4 rfl) ?_
      refine lv_iload_n hx hb dX3_grows_16 rfl (lv_at hl 1 rfl) ?_
      refine lv_iload hx hb dX3_grows_17 (lv_at hl 4 rfl) ?_
      refine ro_i (D := D) (va_runS (As := [.int facts, .int (nI j3)]) (rest := [.int (nI j3), .ref (h 11)]) ⟨hx, hb, hml, hown, hts⟩ (c_X3_has l D facts (nI j3)  _) (va_cwS 2 hts gX3_grows_X3_has rfl rfl rfl (by decide +kernel) ⟨Nat.le_of_ble_eq_true rfl, Nat.le_of_ble_eq_true rfl⟩) ⟨cPre.blind, cPre.mk vP0 hKe vD0 hN⟩ rfl rfl hl.1 rfl (lv_room (Nat.le_of_ble_eq_true rfl)) dX3_grows_19 ⟨Nat.zero_le _, Nat.zero_le _⟩) hS hA (fun H locs hkp0 hS => ?_)
      replace hP := hkp0 _ hP
      refine lv_if_eq (tgt := 29) hx hb dX3_grows_22 (by decide) (fun c_22_31 => ?_) (fun c_22_31 => ?_)
      · refine lv_iconst (v := (-1)) hx hb dX3_grows_29 (by decide) ?_
        refine wa_ist hx hb hK hP hD hS 11 10 rfl rfl j3 rfl (by omega) (by decide) dX3_grows_30 (fun H locs hP hD hS => ?_)
        replace hP : va_P D vwCl (wM h cA (nI n) hd fi un on may asd tx td kp ko ka tr pat pfr rhd rif rul prr prm (upd rd3 j3 (-1)) bb3 nw ot ev od) H := hP
        replace hD : va_D A (wM h cA (nI n) hd fi un on may asd tx td kp ko ka tr pat pfr rhd rif rul prr prm (upd rd3 j3 (-1)) bb3 nw ot ev od) := hD
        refine lv_aload_n hx hb dX3_grows_31 rfl (lv_at hl 0 rfl) ?_
        refine va_get (D := D) (ci := 3) (v := .ref (h 12)) (C := RX3) (T := TX3) (N := 26) hx hb hts hinX3 hown hK hP 0 rfl rfl 21 (by decide) (hts (.fieldLink RX3 44 "HoldUnlessModel" "by" "[I") (by decide +kernel)) (fun _ h9 => h9) rfl dX3_grows_32 ?_
        refine lv_iload hx hb dX3_grows_35 (lv_at hl 4 rfl) ?_
        refine lv_bipush (v := (-9)) hx hb dX3_grows_37 (by decide) ?_
        refine wa_ist hx hb hK hP hD hS 12 11 rfl rfl j3 rfl (by omega) (by decide) dX3_grows_39 (fun H locs hP hD hS => ?_)
        replace hP : va_P D vwCl (wM h cA (nI n) hd fi un on may asd tx td kp ko ka tr pat pfr rhd rif rul prr prm (upd rd3 j3 (-1)) (upd bb3 j3 (-9)) nw ot ev od) H := hP
        replace hD : va_D A (wM h cA (nI n) hd fi un on may asd tx td kp ko ka tr pat pfr rhd rif rul prr prm (upd rd3 j3 (-1)) (upd bb3 j3 (-9)) nw ot ev od) := hD
        refine lv_iinc (v := nI (j3 + 1)) (lv' := [(4, .int (nI (j3 + 1))), (0, .ref (h 0)), (1, .int facts), (2, .int sme), (3, .int against)]) hx hb dX3_grows_40 hl (k := 4) rfl (inc_nI j3) (by decide) rfl (fun ls hl => ?_)
        refine lv_goto (tgt := 3) hx hb dX3_grows_43 (by decide) ?_
        exact ih3 (j3 + 1) (by omega) (upd rd3 j3 (-1)) (upd bb3 j3 (-9)) (itr_step he3 (by (unfold f_X3_grows_3; (try dsimp only); (try rw [if_pos c_22_31]); first | done | rfl)))   _ _ hP hD hS _ (lv_sub hl [1, 2, 3, 4, 0] rfl)
      · refine lv_iconst (v := 0) hx hb dX3_grows_25 (by decide) ?_
        refine lv_goto (tgt := 30) hx hb dX3_grows_26 (by decide) ?_
        refine wa_ist hx hb hK hP hD hS 11 10 rfl rfl j3 rfl (by omega) (by decide) dX3_grows_30 (fun H locs hP hD hS => ?_)
        replace hP : va_P D vwCl (wM h cA (nI n) hd fi un on may asd tx td kp ko ka tr pat pfr rhd rif rul prr prm (upd rd3 j3 0) bb3 nw ot ev od) H := hP
        replace hD : va_D A (wM h cA (nI n) hd fi un on may asd tx td kp ko ka tr pat pfr rhd rif rul prr prm (upd rd3 j3 0) bb3 nw ot ev od) := hD
        refine lv_aload_n hx hb dX3_grows_31 rfl (lv_at hl 0 rfl) ?_
        refine va_get (D := D) (ci := 3) (v := .ref (h 12)) (C := RX3) (T := TX3) (N := 26) hx hb hts hinX3 hown hK hP 0 rfl rfl 21 (by decide) (hts (.fieldLink RX3 44 "HoldUnlessModel" "by" "[I") (by decide +kernel)) (fun _ h9 => h9) rfl dX3_grows_32 ?_
        refine lv_iload hx hb dX3_grows_35 (lv_at hl 4 rfl) ?_
        refine lv_bipush (v := (-9)) hx hb dX3_grows_37 (by decide) ?_
        refine wa_ist hx hb hK hP hD hS 12 11 rfl rfl j3 rfl (by omega) (by decide) dX3_grows_39 (fun H locs hP hD hS => ?_)
        replace hP : va_P D vwCl (wM h cA (nI n) hd fi un on may asd tx td kp ko ka tr pat pfr rhd rif rul prr prm (upd rd3 j3 0) (upd bb3 j3 (-9)) nw ot ev od) H := hP
        replace hD : va_D A (wM h cA (nI n) hd fi un on may asd tx td kp ko ka tr pat pfr rhd rif rul prr prm (upd rd3 j3 0) (upd bb3 j3 (-9)) nw ot ev od) := hD
        refine lv_iinc (v := nI (j3 + 1)) (lv' := [(4, .int (nI (j3 + 1))), (0, .ref (h 0)), (1, .int facts), (2, .int sme), (3, .int against)]) hx hb dX3_grows_40 hl (k := 4) rfl (inc_nI j3) (by decide) rfl (fun ls hl => ?_)
        refine lv_goto (tgt := 3) hx hb dX3_grows_43 (by decide) ?_
        exact ih3 (j3 + 1) (by omega) (upd rd3 j3 0) (upd bb3 j3 (-9)) (itr_step he3 (by (unfold f_X3_grows_3; (try dsimp only); (try rw [if_neg c_22_31]); first | done | rfl)))   _ _ hP hD hS _ (lv_sub hl [1, 2, 3, 4, 0] rfl)
  exact lp3_1 8 0 (by omega) rd bb (itr_zero _ _).symm   _ _ hP hD hS _ (lv_sub hl [1, 2, 3, 4, 0] rfl)

def f_X3_grows__v_66 (hd : Nat → Int32) (fi : Nat → Int32) (un : Nat → Int32) (sme : Int32) (against : Int32) (came : Int32) (j66 : Nat) (st : Int32) : Int32 := match st with | thn => (if (s_X3_has sme (nI j66)) = 0 then thn else (if (hd j66) = 8 then thn else (if ((un j66) &&& against) = 0 then (if ((fi j66) &&& (came ^^^ (-1))) = 0 then (if (s_X3_has thn (hd j66)) = 0 then (thn ||| (1 <<< ((hd j66) &&& 31))) else thn) else thn) else thn)))
def f_X3_grows__v_52 (n : Nat) (hd : Nat → Int32) (fi : Nat → Int32) (un : Nat → Int32) (sme : Int32) (against : Int32) (j52 : Nat) (st : Int32) : Int32 := match st with | came => (match itr (f_X3_grows__v_66 hd fi un sme against came) came n with | thn => thn)
def f_X3_grows__v_3 (facts : Int32) (j3 : Nat) (st : Unit) : Unit := (if (s_X3_has facts (nI j3)) = 0 then () else ())
def s_X3_grows__v (n : Nat) (hd : Nat → Int32) (fi : Nat → Int32) (un : Nat → Int32) (facts : Int32) (sme : Int32) (against : Int32) : Int32 := (match itr (f_X3_grows__v_3 facts) () 8 with | () => (match itr (f_X3_grows__v_52 n hd fi un sme against) facts 8 with | came => came))
set_option maxHeartbeats 4000000 in
set_option maxRecDepth 100000 in
theorem c_X3_grows__v (l : Launch) (D : va_G) (h : Nat → Nat) (cA : Nat → ClassId) (n : Nat) (hd : Nat → Int32) (fi : Nat → Int32) (un : Nat → Int32) (on : Int32) (may : Int32) (asd : Int32) (tx : Nat → Int32) (td : Int32) (kp : Nat → Int32) (ko : Nat → Int32) (ka : Nat → Int32) (tr : Int64) (pat : Int32) (pfr : Int32) (rhd : Nat → Int32) (rif : Nat → Int32) (rul : Nat → Int32) (prr : Int32) (prm : Int32) (rd : Nat → Int32) (bb : Nat → Int32) (nw : Nat → Int32) (ot : Nat → Int32) (ev : Nat → Int32) (od : Nat → Int32) (facts : Int32) (sme : Int32) (against : Int32) (hn : n ≤ 10) (hhd : ∀ k : Nat, k < n → ¬ hd k = 8 → vp_in (hd k) 8) (sz : Nat) : Met l yX3_grows wsX3_grows ({ frames := 1, cells := 0, slots := 0, locals := 21 }) (va_Pc [.ref (h 0), .int facts, .int sme, .int against] (cPre D (tM h cA) (wM h cA (nI n) hd fi un on may asd tx td kp ko ka tr pat pfr rhd rif rul prr prm rd bb nw ot ev od) sz)) (va_Qi (fun (r : Int32) (u : (Nat → Int32) × (Nat → Int32)) => r = s_X3_grows__v n hd fi un facts sme against) (rwB D (fun u : (Nat → Int32) × (Nat → Int32) => (wM h cA (nI n) hd fi un on may asd tx td kp ko ka tr pat pfr rhd rif rul prr prm u.1 u.2 nw ot ev od)) (va_A (wM h cA (nI n) hd fi un on may asd tx td kp ko ka tr pat pfr rhd rif rul prr prm rd bb nw ot ev od) sz)) (va_A (wM h cA (nI n) hd fi un on may asd tx td kp ko ka tr pat pfr rhd rif rul prr prm rd bb nw ot ev od) sz)) 0 0 (va_A (wM h cA (nI n) hd fi un on may asd tx td kp ko ka tr pat pfr rhd rif rul prr prm rd bb nw ot ev od) sz) := by
  refine Met.ofW (cc := cX3_grows) (maxL := 9) (ret := (some .int)) (by decide) rfl ?_
  intro p e s m args below meth c s₁ B hml hv
  obtain ⟨rfl, hsz, hP, hK, hD, hN⟩ := hv
  have hx := B.exec
  have hb := B.bytes
  have hr := B.returns
  have hts := atoms_spec (ws := wsX3_grows) B.pre
  have hown : s.vm.findClass RX3 = some m.cls := findClass_of_methodNamed B.named
  have hlocks := B.notSynchronized
  have hinX3 : ∀ w ∈ wsX30, w ∈ wsX3_grows := fun w h => List.mem_cons_of_mem _ (List.mem_append_right _ h)
  subst hsz
  replace hD := hD.self (sz := s.heap.size)
  generalize hAe : va_A (wM h cA (nI n) hd fi un on may asd tx td kp ko ka tr pat pfr rhd rif rul prr prm rd bb nw ot ev od) s.heap.size = A at hD ⊢
  have hA : ∀ q : Nat, s.heap.size ≤ q → A q := fun q h => by rw [← hAe]; exact Or.inr h
  have hS : va_S A s.heap s.heap [] := va_S.rf
  have hl := lv_entry ([.ref (h 0), .int facts, .int sme, .int against]) (n := 9) (Nat.le_of_ble_eq_true rfl)
  rw [lg_entry_eq]
  generalize (lg_sl ([.ref (h 0), .int facts, .int sme, .int against]) ++ List.replicate (9 - (lg_sl ([.ref (h 0), .int facts, .int sme, .int against])).length) Slot.unset).toArray = ls at hl ⊢
  replace hl : lv_has ls 9 [(0, .ref (h 0)), (1, .int facts), (2, .int sme), (3, .int against)] := hl
  have hKe := hK.sub (tys' := []) [] rfl
  refine lv_iconst (v := 0) hx hb dX3_grows_0 (by decide) ?_
  refine lv_istore (lv' := [(4, .int 0), (0, .ref (h 0)), (1, .int facts), (2, .int sme), (3, .int against)]) hx hb dX3_grows_1 hl (by decide) rfl (fun ls hl => ?_)
  have lp3_3 : ∀ (z_1 j3 : Nat), j3 + z_1 = 8 → ∀ (_ : Unit), () = itr (f_X3_grows__v_3 facts) () j3 → ∀ (rd_2 : Nat → Int32) (bb_3 : Nat → Int32) (H : Heap) (locs : List Loc), va_P D vwCl (wM h cA (nI n) hd fi un on may asd tx td kp ko ka tr pat pfr rhd rif rul prr prm rd_2 bb_3 nw ot ev od) H → va_D A (wM h cA (nI n) hd fi un on may asd tx td kp ko ka tr pat pfr rhd rif rul prr prm rd_2 bb_3 nw ot ev od) → va_S A s.heap H locs → ∀ ls : Array Slot, lv_has ls 9 [(0, .ref (h 0)), (1, .int facts), (2, .int sme), (3, .int against), (4, .int (nI j3))] → W p l e (headSpec wsX3_grows ({ frames := 1, cells := 0, slots := 0, locals := 21 })).room s m ([.ref (h 0), .int facts, .int sme, .int against] : List Value).toArray below meth c H locs 0 0 (MQ below (va_Qi (fun (r : Int32) (u : (Nat → Int32) × (Nat → Int32)) => r = s_X3_grows__v n hd fi un facts sme against) (rwB D (fun u : (Nat → Int32) × (Nat → Int32) => (wM h cA (nI n) hd fi un on may asd tx td kp ko ka tr pat pfr rhd rif rul prr prm u.1 u.2 nw ot ev od)) A) A) ([.ref (h 0), .int facts, .int sme, .int against] : List Value).toArray s 0 0 A) (F0 m 3 ls []) := by
    intro z_1
    induction z_1 with
    | zero =>
      intro j3 hj3 _ he3  rd_2 bb_3 H locs hP hD hS ls hl
      obtain rfl : 8 = j3 := by omega
      refine lv_iload hx hb dX3_grows_3 (lv_at hl 4 rfl) ?_
      refine lv_bipush (v := 8) hx hb dX3_grows_5 (by decide) ?_
      refine lv_icmp_ge (tgt := 46) hx hb dX3_grows_7 (by decide) (fun _ => ?_) (fun hh_5 => absurd (nI_le (a := 8) (b := 8) (by omega) (by omega)) hh_5)
      refine lv_iload_n hx hb dX3_grows_46 rfl (lv_at hl 1 rfl) ?_
      refine lv_istore (lv' := [(4, .int facts), (0, .ref (h 0)), (1, .int facts), (2, .int sme), (3, .int against)]) hx hb dX3_grows_47 hl (by decide) rfl (fun ls hl => ?_)
      refine lv_iconst (v := 1) hx hb dX3_grows_49 (by decide) ?_
      refine lv_istore (lv' := [(5, .int 1), (4, .int facts), (0, .ref (h 0)), (1, .int facts), (2, .int sme), (3, .int against)]) hx hb dX3_grows_50 hl (by decide) rfl (fun ls hl => ?_)
      have lp52_8 : ∀ (z_6 j52 : Nat), j52 + z_6 = 8 → ∀ (came : Int32), came = itr (f_X3_grows__v_52 n hd fi un sme against) facts j52 → ∀ (rd_7 : Nat → Int32) (bb_8 : Nat → Int32) (H : Heap) (locs : List Loc), va_P D vwCl (wM h cA (nI n) hd fi un on may asd tx td kp ko ka tr pat pfr rhd rif rul prr prm rd_7 bb_8 nw ot ev od) H → va_D A (wM h cA (nI n) hd fi un on may asd tx td kp ko ka tr pat pfr rhd rif rul prr prm rd_7 bb_8 nw ot ev od) → va_S A s.heap H locs → ∀ ls : Array Slot, lv_has ls 9 [(0, .ref (h 0)), (1, .int facts), (2, .int sme), (3, .int against), (4, .int came), (5, .int (nI (j52 + 1)))] → W p l e (headSpec wsX3_grows ({ frames := 1, cells := 0, slots := 0, locals := 21 })).room s m ([.ref (h 0), .int facts, .int sme, .int against] : List Value).toArray below meth c H locs 0 0 (MQ below (va_Qi (fun (r : Int32) (u : (Nat → Int32) × (Nat → Int32)) => r = s_X3_grows__v n hd fi un facts sme against) (rwB D (fun u : (Nat → Int32) × (Nat → Int32) => (wM h cA (nI n) hd fi un on may asd tx td kp ko ka tr pat pfr rhd rif rul prr prm u.1 u.2 nw ot ev od)) A) A) ([.ref (h 0), .int facts, .int sme, .int against] : List Value).toArray s 0 0 A) (F0 m 52 ls []) := by
        intro z_6
        induction z_6 with
        | zero =>
          intro j52 hj52 came he52  rd_7 bb_8 H locs hP hD hS ls hl
          obtain rfl : 8 = j52 := by omega
          refine lv_iload hx hb dX3_grows_52 (lv_at hl 5 rfl) ?_
          refine lv_bipush (v := 8) hx hb dX3_grows_54 (by decide) ?_
          refine lv_icmp_gt (tgt := 208) hx hb dX3_grows_56 (by decide) (fun _ => ?_) (fun hh_10 => absurd (nI_lt (a := 8) (b := 8 + 1) (by omega) (by omega)) hh_10)
          refine lv_iload hx hb dX3_grows_208 (lv_at hl 4 rfl) ?_
          exact rw_iret hx hb hr hS hlocks (rd_7, bb_8) (show s_X3_grows__v n hd fi un facts sme against = came from by (unfold s_X3_grows__v; (try dsimp only); (try rw [← he3]); (try dsimp only); (try rw [← he52]); (try dsimp only); first | done | rfl)).symm hP hD dX3_grows_210
        | succ z_6 ih52 =>
          intro j52 hj52 came he52  rd_7 bb_8 H locs hP hD hS ls hl
          refine lv_iload hx hb dX3_grows_52 (lv_at hl 5 rfl) ?_
          refine lv_bipush (v := 8) hx hb dX3_grows_54 (by decide) ?_
          refine lv_icmp_gt (tgt := 208) hx hb dX3_grows_56 (by decide) (fun hh_12 => absurd hh_12 (nI_nlt (a := 8) (b := j52 + 1) (by omega) (by omega))) (fun _ => ?_)
          refine lv_iload hx hb dX3_grows_59 (lv_at hl 4 rfl) ?_
          refine lv_istore (lv' := [(6, .int came), (0, .ref (h 0)), (1, .int facts), (2, .int sme), (3, .int against), (4, .int came), (5, .int (nI (j52 + 1)))]) hx hb dX3_grows_61 hl (by decide) rfl (fun ls hl => ?_)
          refine lv_iconst (v := 0) hx hb dX3_grows_63 (by decide) ?_
          refine lv_istore (lv' := [(7, .int 0), (6, .int came), (0, .ref (h 0)), (1, .int facts), (2, .int sme), (3, .int against), (4, .int came), (5, .int (nI (j52 + 1)))]) hx hb dX3_grows_64 hl (by decide) rfl (fun ls hl => ?_)
          have lp66_15 : ∀ (z_13 j66 : Nat), j66 + z_13 = n → ∀ (thn : Int32), thn = itr (f_X3_grows__v_66 hd fi un sme against came) came j66 → ∀ (rd_14 : Nat → Int32) (bb_15 : Nat → Int32) (H : Heap) (locs : List Loc), va_P D vwCl (wM h cA (nI n) hd fi un on may asd tx td kp ko ka tr pat pfr rhd rif rul prr prm rd_14 bb_15 nw ot ev od) H → va_D A (wM h cA (nI n) hd fi un on may asd tx td kp ko ka tr pat pfr rhd rif rul prr prm rd_14 bb_15 nw ot ev od) → va_S A s.heap H locs → ∀ ls : Array Slot, lv_has ls 9 [(0, .ref (h 0)), (1, .int facts), (2, .int sme), (3, .int against), (4, .int came), (5, .int (nI (j52 + 1))), (6, .int thn), (7, .int (nI j66))] → W p l e (headSpec wsX3_grows ({ frames := 1, cells := 0, slots := 0, locals := 21 })).room s m ([.ref (h 0), .int facts, .int sme, .int against] : List Value).toArray below meth c H locs 0 0 (MQ below (va_Qi (fun (r : Int32) (u : (Nat → Int32) × (Nat → Int32)) => r = s_X3_grows__v n hd fi un facts sme against) (rwB D (fun u : (Nat → Int32) × (Nat → Int32) => (wM h cA (nI n) hd fi un on may asd tx td kp ko ka tr pat pfr rhd rif rul prr prm u.1 u.2 nw ot ev od)) A) A) ([.ref (h 0), .int facts, .int sme, .int against] : List Value).toArray s 0 0 A) (F0 m 66 ls []) := by
            intro z_13
            induction z_13 with
            | zero =>
              intro j66 hj66 thn he66  rd_14 bb_15 H locs hP hD hS ls hl
              obtain rfl : n = j66 := by omega
              refine lv_iload hx hb dX3_grows_66 (lv_at hl 7 rfl) ?_
              refine lv_aload_n hx hb dX3_grows_68 rfl (lv_at hl 0 rfl) ?_
              refine va_get (D := D) (ci := 3) (v := .int (nI n)) (C := RX3) (T := TX3) (N := 26) hx hb hts hinX3 hown hK hP 0 rfl rfl 0 (by decide) (hts (.fieldLink RX3 59 "HoldUnlessModel" "rules" "I") (by decide +kernel)) (fun _ h9 => h9) rfl dX3_grows_69 ?_
              refine lv_icmp_ge (tgt := 198) hx hb dX3_grows_72 (by decide) (fun _ => ?_) (fun hh_17 => absurd (nI_le (a := n) (b := n) (by omega) (by omega)) hh_17)
              refine lv_iload hx hb dX3_grows_198 (lv_at hl 6 rfl) ?_
              refine lv_istore (lv' := [(4, .int thn), (0, .ref (h 0)), (1, .int facts), (2, .int sme), (3, .int against), (5, .int (nI (j52 + 1))), (6, .int thn), (7, .int (nI n))]) hx hb dX3_grows_200 hl (by decide) rfl (fun ls hl => ?_)
              refine lv_iinc (v := nI ((j52 + 1) + 1)) (lv' := [(5, .int (nI ((j52 + 1) + 1))), (4, .int thn), (0, .ref (h 0)), (1, .int facts), (2, .int sme), (3, .int against), (6, .int thn), (7, .int (nI n))]) hx hb dX3_grows_202 hl (k := 5) rfl (inc_nI (j52 + 1)) (by decide) rfl (fun ls hl => ?_)
              refine lv_goto (tgt := 52) hx hb dX3_grows_205 (by decide) ?_
              exact ih52 (j52 + 1) (by omega) thn (itr_step he52 (by (unfold f_X3_grows__v_52; (try dsimp only); (try rw [← he66]); (try dsimp only); first | done | rfl)))  rd_14 bb_15 _ _ hP hD hS _ (lv_sub hl [2, 3, 4, 5, 1, 0] rfl)
            | succ z_13 ih66 =>
              intro j66 hj66 thn he66  rd_14 bb_15 H locs hP hD hS ls hl
              refine lv_iload hx hb dX3_grows_66 (lv_at hl 7 rfl) ?_
              refine lv_aload_n hx hb dX3_grows_68 rfl (lv_at hl 0 rfl) ?_
              refine va_get (D := D) (ci := 3) (v := .int (nI n)) (C := RX3) (T := TX3) (N := 26) hx hb hts hinX3 hown hK hP 0 rfl rfl 0 (by decide) (hts (.fieldLink RX3 59 "HoldUnlessModel" "rules" "I") (by decide +kernel)) (fun _ h9 => h9) rfl dX3_grows_69 ?_
              refine lv_icmp_ge (tgt := 198) hx hb dX3_grows_72 (by decide) (fun hh_19 => absurd hh_19 (nI_ge (a := j66) (b := n) (by omega) (by omega))) (fun _ => ?_)
              refine lv_iload_n hx hb dX3_grows_75 rfl (lv_at hl 2 rfl) ?_
              refine lv_iload hx hb dX3_grows_76 (lv_at hl 7 rfl) ?_
              refine ro_i (D := D) (va_runS (As := [.int sme, .int (nI j66)]) (rest := []) ⟨hx, hb, hml, hown, hts⟩ (c_X3_has l D sme (nI j66)  _) (va_cwS 2 hts gX3_grows_X3_has rfl rfl rfl (by decide +kernel) ⟨Nat.le_of_ble_eq_true rfl, Nat.le_of_ble_eq_true rfl⟩) ⟨cPre.blind, cPre.mk vP0 hKe vD0 hN⟩ rfl rfl hl.1 rfl (lv_room (Nat.le_of_ble_eq_true rfl)) dX3_grows_78 ⟨Nat.zero_le _, Nat.zero_le _⟩) hS hA (fun H locs hkp0 hS => ?_)
              replace hP := hkp0 _ hP
              refine lv_if_eq (tgt := 127) hx hb dX3_grows_81 (by decide) (fun c_81_20 => ?_) (fun c_81_20 => ?_)
              · refine lv_iconst (v := 0) hx hb dX3_grows_127 (by decide) ?_
                refine lv_istore (lv' := [(8, .int 0), (0, .ref (h 0)), (1, .int facts), (2, .int sme), (3, .int against), (4, .int came), (5, .int (nI (j52 + 1))), (6, .int thn), (7, .int (nI j66))]) hx hb dX3_grows_128 hl (by decide) rfl (fun ls hl => ?_)
                refine lv_iload hx hb dX3_grows_130 (lv_at hl 0 rfl) ?_
                refine lv_if_eq (tgt := 192) hx hb dX3_grows_132 (by decide) (fun _ => ?_) (fun hh_22 => absurd (by decide) hh_22)
                refine lv_iinc (v := nI (j66 + 1)) (lv' := [(7, .int (nI (j66 + 1))), (8, .int 0), (0, .ref (h 0)), (1, .int facts), (2, .int sme), (3, .int against), (4, .int came), (5, .int (nI (j52 + 1))), (6, .int thn)]) hx hb dX3_grows_192 hl (k := 8) rfl (inc_nI j66) (by decide) rfl (fun ls hl => ?_)
                refine lv_goto (tgt := 66) hx hb dX3_grows_195 (by decide) ?_
                exact ih66 (j66 + 1) (by omega) thn (itr_step he66 (by (unfold f_X3_grows__v_66; (try dsimp only); (try rw [if_pos c_81_20]); first | done | rfl)))  rd_14 bb_15 _ _ hP hD hS _ (lv_sub hl [2, 3, 4, 5, 6, 7, 8, 0] rfl)
              · refine lv_aload_n hx hb dX3_grows_84 rfl (lv_at hl 0 rfl) ?_
                refine va_get (D := D) (ci := 3) (v := .ref (h 1)) (C := RX3) (T := TX3) (N := 26) hx hb hts hinX3 hown hK hP 0 rfl rfl 1 (by decide) (hts (.fieldLink RX3 7 "HoldUnlessModel" "head" "[I") (by decide +kernel)) (fun _ h9 => h9) rfl dX3_grows_85 ?_
                refine lv_iload hx hb dX3_grows_88 (lv_at hl 7 rfl) ?_
                refine wa_ild hx hb hK hP 1 0 rfl rfl j66 rfl (by omega) (by decide) dX3_grows_90 ?_
                refine lv_bipush (v := 8) hx hb dX3_grows_91 (by decide) ?_
                refine lv_icmp_eq (tgt := 127) hx hb dX3_grows_93 (by decide) (fun c_93_23 => ?_) (fun c_93_23 => ?_)
                · refine lv_iconst (v := 0) hx hb dX3_grows_127 (by decide) ?_
                  refine lv_istore (lv' := [(8, .int 0), (0, .ref (h 0)), (1, .int facts), (2, .int sme), (3, .int against), (4, .int came), (5, .int (nI (j52 + 1))), (6, .int thn), (7, .int (nI j66))]) hx hb dX3_grows_128 hl (by decide) rfl (fun ls hl => ?_)
                  refine lv_iload hx hb dX3_grows_130 (lv_at hl 0 rfl) ?_
                  refine lv_if_eq (tgt := 192) hx hb dX3_grows_132 (by decide) (fun _ => ?_) (fun hh_25 => absurd (by decide) hh_25)
                  refine lv_iinc (v := nI (j66 + 1)) (lv' := [(7, .int (nI (j66 + 1))), (8, .int 0), (0, .ref (h 0)), (1, .int facts), (2, .int sme), (3, .int against), (4, .int came), (5, .int (nI (j52 + 1))), (6, .int thn)]) hx hb dX3_grows_192 hl (k := 8) rfl (inc_nI j66) (by decide) rfl (fun ls hl => ?_)
                  refine lv_goto (tgt := 66) hx hb dX3_grows_195 (by decide) ?_
                  exact ih66 (j66 + 1) (by omega) thn (itr_step he66 (by (unfold f_X3_grows__v_66; (try dsimp only); (try rw [if_neg c_81_20]); (try rw [if_pos c_93_23]); first | done | rfl)))  rd_14 bb_15 _ _ hP hD hS _ (lv_sub hl [2, 3, 4, 5, 6, 7, 8, 0] rfl)
                · refine lv_aload_n hx hb dX3_grows_96 rfl (lv_at hl 0 rfl) ?_
                  refine va_get (D := D) (ci := 3) (v := .ref (h 3)) (C := RX3) (T := TX3) (N := 26) hx hb hts hinX3 hown hK hP 0 rfl rfl 3 (by decide) (hts (.fieldLink RX3 16 "HoldUnlessModel" "unless" "[I") (by decide +kernel)) (fun _ h9 => h9) rfl dX3_grows_97 ?_
                  refine lv_iload hx hb dX3_grows_100 (lv_at hl 7 rfl) ?_
                  refine wa_ild hx hb hK hP 3 2 rfl rfl j66 rfl (by omega) (by decide) dX3_grows_102 ?_
                  refine lv_iload_n hx hb dX3_grows_103 rfl (lv_at hl 3 rfl) ?_
                  refine lv_iand hx hb dX3_grows_104 ?_
                  refine lv_if_ne (tgt := 127) hx hb dX3_grows_105 (by decide) (fun c_105_26 => ?_) (fun c_105_26 => ?_)
                  · refine lv_iconst (v := 0) hx hb dX3_grows_127 (by decide) ?_
                    refine lv_istore (lv' := [(8, .int 0), (0, .ref (h 0)), (1, .int facts), (2, .int sme), (3, .int against), (4, .int came), (5, .int (nI (j52 + 1))), (6, .int thn), (7, .int (nI j66))]) hx hb dX3_grows_128 hl (by decide) rfl (fun ls hl => ?_)
                    refine lv_iload hx hb dX3_grows_130 (lv_at hl 0 rfl) ?_
                    refine lv_if_eq (tgt := 192) hx hb dX3_grows_132 (by decide) (fun _ => ?_) (fun hh_28 => absurd (by decide) hh_28)
                    refine lv_iinc (v := nI (j66 + 1)) (lv' := [(7, .int (nI (j66 + 1))), (8, .int 0), (0, .ref (h 0)), (1, .int facts), (2, .int sme), (3, .int against), (4, .int came), (5, .int (nI (j52 + 1))), (6, .int thn)]) hx hb dX3_grows_192 hl (k := 8) rfl (inc_nI j66) (by decide) rfl (fun ls hl => ?_)
                    refine lv_goto (tgt := 66) hx hb dX3_grows_195 (by decide) ?_
                    exact ih66 (j66 + 1) (by omega) thn (itr_step he66 (by (unfold f_X3_grows__v_66; (try dsimp only); (try rw [if_neg c_81_20]); (try rw [if_neg c_93_23]); (try rw [if_neg c_105_26]); first | done | rfl)))  rd_14 bb_15 _ _ hP hD hS _ (lv_sub hl [2, 3, 4, 5, 6, 7, 8, 0] rfl)
                  · refine lv_aload_n hx hb dX3_grows_108 rfl (lv_at hl 0 rfl) ?_
                    refine va_get (D := D) (ci := 3) (v := .ref (h 2)) (C := RX3) (T := TX3) (N := 26) hx hb hts hinX3 hown hK hP 0 rfl rfl 2 (by decide) (hts (.fieldLink RX3 13 "HoldUnlessModel" "ifs" "[I") (by decide +kernel)) (fun _ h9 => h9) rfl dX3_grows_109 ?_
                    refine lv_iload hx hb dX3_grows_112 (lv_at hl 7 rfl) ?_
                    refine wa_ild hx hb hK hP 2 1 rfl rfl j66 rfl (by omega) (by decide) dX3_grows_114 ?_
                    refine lv_iload hx hb dX3_grows_115 (lv_at hl 4 rfl) ?_
                    refine lv_iconst (v := (-1)) hx hb dX3_grows_117 (by decide) ?_
                    refine lv_ixor hx hb dX3_grows_118 ?_
                    refine lv_iand hx hb dX3_grows_119 ?_
                    refine lv_if_ne (tgt := 127) hx hb dX3_grows_120 (by decide) (fun c_120_29 => ?_) (fun c_120_29 => ?_)
                    · refine lv_iconst (v := 0) hx hb dX3_grows_127 (by decide) ?_
                      refine lv_istore (lv' := [(8, .int 0), (0, .ref (h 0)), (1, .int facts), (2, .int sme), (3, .int against), (4, .int came), (5, .int (nI (j52 + 1))), (6, .int thn), (7, .int (nI j66))]) hx hb dX3_grows_128 hl (by decide) rfl (fun ls hl => ?_)
                      refine lv_iload hx hb dX3_grows_130 (lv_at hl 0 rfl) ?_
                      refine lv_if_eq (tgt := 192) hx hb dX3_grows_132 (by decide) (fun _ => ?_) (fun hh_31 => absurd (by decide) hh_31)
                      refine lv_iinc (v := nI (j66 + 1)) (lv' := [(7, .int (nI (j66 + 1))), (8, .int 0), (0, .ref (h 0)), (1, .int facts), (2, .int sme), (3, .int against), (4, .int came), (5, .int (nI (j52 + 1))), (6, .int thn)]) hx hb dX3_grows_192 hl (k := 8) rfl (inc_nI j66) (by decide) rfl (fun ls hl => ?_)
                      refine lv_goto (tgt := 66) hx hb dX3_grows_195 (by decide) ?_
                      exact ih66 (j66 + 1) (by omega) thn (itr_step he66 (by (unfold f_X3_grows__v_66; (try dsimp only); (try rw [if_neg c_81_20]); (try rw [if_neg c_93_23]); (try rw [if_pos c_105_26]); (try rw [if_neg c_120_29]); first | done | rfl)))  rd_14 bb_15 _ _ hP hD hS _ (lv_sub hl [2, 3, 4, 5, 6, 7, 8, 0] rfl)
                    · refine lv_iconst (v := 1) hx hb dX3_grows_123 (by decide) ?_
                      refine lv_goto (tgt := 128) hx hb dX3_grows_124 (by decide) ?_
                      refine lv_istore (lv' := [(8, .int 1), (0, .ref (h 0)), (1, .int facts), (2, .int sme), (3, .int against), (4, .int came), (5, .int (nI (j52 + 1))), (6, .int thn), (7, .int (nI j66))]) hx hb dX3_grows_128 hl (by decide) rfl (fun ls hl => ?_)
                      refine lv_iload hx hb dX3_grows_130 (lv_at hl 0 rfl) ?_
                      refine lv_if_eq (tgt := 192) hx hb dX3_grows_132 (by decide) (fun hh_33 => absurd hh_33 (by decide)) (fun _ => ?_)
                      refine lv_iload hx hb dX3_grows_135 (lv_at hl 7 rfl) ?_
                      refine lv_aload_n hx hb dX3_grows_137 rfl (lv_at hl 1 rfl) ?_
                      refine va_get (D := D) (ci := 3) (v := .ref (h 1)) (C := RX3) (T := TX3) (N := 26) hx hb hts hinX3 hown hK hP 0 rfl rfl 1 (by decide) (hts (.fieldLink RX3 7 "HoldUnlessModel" "head" "[I") (by decide +kernel)) (fun _ h9 => h9) rfl dX3_grows_138 ?_
                      refine lv_iload hx hb dX3_grows_141 (lv_at hl 8 rfl) ?_
                      refine wa_ild hx hb hK hP 1 0 rfl rfl j66 rfl (by omega) (by decide) dX3_grows_143 ?_
                      refine ro_i (D := D) (va_runS (As := [.int thn, .int (hd j66)]) (rest := []) ⟨hx, hb, hml, hown, hts⟩ (c_X3_has l D thn (hd j66)  _) (va_cwS 2 hts gX3_grows_X3_has rfl rfl rfl (by decide +kernel) ⟨Nat.le_of_ble_eq_true rfl, Nat.le_of_ble_eq_true rfl⟩) ⟨cPre.blind, cPre.mk vP0 hKe vD0 hN⟩ rfl rfl hl.1 rfl (lv_room (Nat.le_of_ble_eq_true rfl)) dX3_grows_144 ⟨Nat.zero_le _, Nat.zero_le _⟩) hS hA (fun H locs hkp0 hS => ?_)
                      replace hP := hkp0 _ hP
                      refine lv_if_ne (tgt := 192) hx hb dX3_grows_147 (by decide) (fun c_147_34 => ?_) (fun c_147_34 => ?_)
                      · refine lv_iinc (v := nI (j66 + 1)) (lv' := [(7, .int (nI (j66 + 1))), (8, .int 1), (0, .ref (h 0)), (1, .int facts), (2, .int sme), (3, .int against), (4, .int came), (5, .int (nI (j52 + 1))), (6, .int thn)]) hx hb dX3_grows_192 hl (k := 8) rfl (inc_nI j66) (by decide) rfl (fun ls hl => ?_)
                        refine lv_goto (tgt := 66) hx hb dX3_grows_195 (by decide) ?_
                        exact ih66 (j66 + 1) (by omega) thn (itr_step he66 (by (unfold f_X3_grows__v_66; (try dsimp only); (try rw [if_neg c_81_20]); (try rw [if_neg c_93_23]); (try rw [if_pos c_105_26]); (try rw [if_pos c_120_29]); (try rw [if_neg c_147_34]); first | done | rfl)))  rd_14 bb_15 _ _ hP hD hS _ (lv_sub hl [2, 3, 4, 5, 6, 7, 8, 0] rfl)
                      · refine lv_iload hx hb dX3_grows_150 (lv_at hl 7 rfl) ?_
                        refine lv_iconst (v := 1) hx hb dX3_grows_152 (by decide) ?_
                        refine lv_aload_n hx hb dX3_grows_153 rfl (lv_at hl 1 rfl) ?_
                        refine va_get (D := D) (ci := 3) (v := .ref (h 1)) (C := RX3) (T := TX3) (N := 26) hx hb hts hinX3 hown hK hP 0 rfl rfl 1 (by decide) (hts (.fieldLink RX3 7 "HoldUnlessModel" "head" "[I") (by decide +kernel)) (fun _ h9 => h9) rfl dX3_grows_154 ?_
                        refine lv_iload hx hb dX3_grows_157 (lv_at hl 8 rfl) ?_
                        refine wa_ild hx hb hK hP 1 0 rfl rfl j66 rfl (by omega) (by decide) dX3_grows_159 ?_
                        refine lv_ishl hx hb dX3_grows_160 ?_
                        refine lv_ior hx hb dX3_grows_161 ?_
                        refine lv_istore (lv' := [(6, .int (thn ||| (1 <<< ((hd j66) &&& 31)))), (8, .int 1), (0, .ref (h 0)), (1, .int facts), (2, .int sme), (3, .int against), (4, .int came), (5, .int (nI (j52 + 1))), (7, .int (nI j66))]) hx hb dX3_grows_162 hl (by decide) rfl (fun ls hl => ?_)
                        refine lv_aload_n hx hb dX3_grows_164 rfl (lv_at hl 2 rfl) ?_
                        refine va_get (D := D) (ci := 3) (v := .ref (h 11)) (C := RX3) (T := TX3) (N := 26) hx hb hts hinX3 hown hK hP 0 rfl rfl 20 (by decide) (hts (.fieldLink RX3 41 "HoldUnlessModel" "round" "[I") (by decide +kernel)) (fun _ h9 => h9) rfl dX3_grows_165 ?_
                        refine lv_aload_n hx hb dX3_grows_168 rfl (lv_at hl 2 rfl) ?_
                        refine va_get (D := D) (ci := 3) (v := .ref (h 1)) (C := RX3) (T := TX3) (N := 26) hx hb hts hinX3 hown hK hP 0 rfl rfl 1 (by decide) (hts (.fieldLink RX3 7 "HoldUnlessModel" "head" "[I") (by decide +kernel)) (fun _ h9 => h9) rfl dX3_grows_169 ?_
                        refine lv_iload hx hb dX3_grows_172 (lv_at hl 8 rfl) ?_
                        refine wa_ild hx hb hK hP 1 0 rfl rfl j66 rfl (by omega) (by decide) dX3_grows_174 ?_
                        refine lv_iload hx hb dX3_grows_175 (lv_at hl 7 rfl) ?_
                        refine va_iast hx hb hK hP hD hS 11 10 rfl rfl ((hhd j66 (by omega) c_93_23)) dX3_grows_177 (fun H locs hP hD hS => ?_)
                        replace hP : va_P D vwCl (wM h cA (nI n) hd fi un on may asd tx td kp ko ka tr pat pfr rhd rif rul prr prm (upd rd_14 ((hd j66) : Int32).toNatClampNeg (nI (j52 + 1))) bb_15 nw ot ev od) H := hP
                        replace hD : va_D A (wM h cA (nI n) hd fi un on may asd tx td kp ko ka tr pat pfr rhd rif rul prr prm (upd rd_14 ((hd j66) : Int32).toNatClampNeg (nI (j52 + 1))) bb_15 nw ot ev od) := hD
                        refine lv_aload_n hx hb dX3_grows_178 rfl (lv_at hl 2 rfl) ?_
                        refine va_get (D := D) (ci := 3) (v := .ref (h 12)) (C := RX3) (T := TX3) (N := 26) hx hb hts hinX3 hown hK hP 0 rfl rfl 21 (by decide) (hts (.fieldLink RX3 44 "HoldUnlessModel" "by" "[I") (by decide +kernel)) (fun _ h9 => h9) rfl dX3_grows_179 ?_
                        refine lv_aload_n hx hb dX3_grows_182 rfl (lv_at hl 2 rfl) ?_
                        refine va_get (D := D) (ci := 3) (v := .ref (h 1)) (C := RX3) (T := TX3) (N := 26) hx hb hts hinX3 hown hK hP 0 rfl rfl 1 (by decide) (hts (.fieldLink RX3 7 "HoldUnlessModel" "head" "[I") (by decide +kernel)) (fun _ h9 => h9) rfl dX3_grows_183 ?_
                        refine lv_iload hx hb dX3_grows_186 (lv_at hl 8 rfl) ?_
                        refine wa_ild hx hb hK hP 1 0 rfl rfl j66 rfl (by omega) (by decide) dX3_grows_188 ?_
                        refine lv_iload hx hb dX3_grows_189 (lv_at hl 8 rfl) ?_
                        refine va_iast hx hb hK hP hD hS 12 11 rfl rfl ((hhd j66 (by omega) c_93_23)) dX3_grows_191 (fun H locs hP hD hS => ?_)
                        replace hP : va_P D vwCl (wM h cA (nI n) hd fi un on may asd tx td kp ko ka tr pat pfr rhd rif rul prr prm (upd rd_14 ((hd j66) : Int32).toNatClampNeg (nI (j52 + 1))) (upd bb_15 ((hd j66) : Int32).toNatClampNeg (nI j66)) nw ot ev od) H := hP
                        replace hD : va_D A (wM h cA (nI n) hd fi un on may asd tx td kp ko ka tr pat pfr rhd rif rul prr prm (upd rd_14 ((hd j66) : Int32).toNatClampNeg (nI (j52 + 1))) (upd bb_15 ((hd j66) : Int32).toNatClampNeg (nI j66)) nw ot ev od) := hD
                        refine lv_iinc (v := nI (j66 + 1)) (lv' := [(7, .int (nI (j66 + 1))), (6, .int (thn ||| (1 <<< ((hd j66) &&& 31)))), (8, .int 1), (0, .ref (h 0)), (1, .int facts), (2, .int sme), (3, .int against), (4, .int came), (5, .int (nI (j52 + 1)))]) hx hb dX3_grows_192 hl (k := 8) rfl (inc_nI j66) (by decide) rfl (fun ls hl => ?_)
                        refine lv_goto (tgt := 66) hx hb dX3_grows_195 (by decide) ?_
                        exact ih66 (j66 + 1) (by omega) (thn ||| (1 <<< ((hd j66) &&& 31))) (itr_step he66 (by (unfold f_X3_grows__v_66; (try dsimp only); (try rw [if_neg c_81_20]); (try rw [if_neg c_93_23]); (try rw [if_pos c_105_26]); (try rw [if_pos c_120_29]); (try rw [if_pos c_147_34]); first | done | rfl)))  (upd rd_14 ((hd j66) : Int32).toNatClampNeg (nI (j52 + 1))) (upd bb_15 ((hd j66) : Int32).toNatClampNeg (nI j66)) _ _ hP hD hS _ (lv_sub hl [3, 4, 5, 6, 7, 8, 1, 0] rfl)
          exact lp66_15 n 0 (by omega) came (itr_zero _ _).symm  rd_7 bb_8 _ _ hP hD hS _ (lv_sub hl [2, 3, 4, 5, 6, 7, 1, 0] rfl)
      exact lp52_8 8 0 (by omega) facts (itr_zero _ _).symm  rd_2 bb_3 _ _ hP hD hS _ (lv_sub hl [2, 3, 4, 5, 1, 0] rfl)
    | succ z_1 ih3 =>
      intro j3 hj3 _ he3  rd_2 bb_3 H locs hP hD hS ls hl
      refine lv_iload hx hb dX3_grows_3 (lv_at hl 4 rfl) ?_
      refine lv_bipush (v := 8) hx hb dX3_grows_5 (by decide) ?_
      refine lv_icmp_ge (tgt := 46) hx hb dX3_grows_7 (by decide) (fun hh_36 => absurd hh_36 (nI_ge (a := j3) (b := 8) (by omega) (by omega))) (fun _ => ?_)
      refine lv_aload_n hx hb dX3_grows_10 rfl (lv_at hl 0 rfl) ?_
      refine va_get (D := D) (ci := 3) (v := .ref (h 11)) (C := RX3) (T := TX3) (N := 26) hx hb hts hinX3 hown hK hP 0 rfl rfl 20 (by decide) (hts (.fieldLink RX3 41 "HoldUnlessModel" "round" "[I") (by decide +kernel)) (fun _ h9 => h9) rfl dX3_grows_11 ?_
      refine lv_iload hx hb dX3_grows_14 (lv_at hl 4 rfl) ?_
      refine lv_iload_n hx hb dX3_grows_16 rfl (lv_at hl 1 rfl) ?_
      refine lv_iload hx hb dX3_grows_17 (lv_at hl 4 rfl) ?_
      refine ro_i (D := D) (va_runS (As := [.int facts, .int (nI j3)]) (rest := [.int (nI j3), .ref (h 11)]) ⟨hx, hb, hml, hown, hts⟩ (c_X3_has l D facts (nI j3)  _) (va_cwS 2 hts gX3_grows_X3_has rfl rfl rfl (by decide +kernel) ⟨Nat.le_of_ble_eq_true rfl, Nat.le_of_ble_eq_true rfl⟩) ⟨cPre.blind, cPre.mk vP0 hKe vD0 hN⟩ rfl rfl hl.1 rfl (lv_room (Nat.le_of_ble_eq_true rfl)) dX3_grows_19 ⟨Nat.zero_le _, Nat.zero_le _⟩) hS hA (fun H locs hkp0 hS => ?_)
      replace hP := hkp0 _ hP
      refine lv_if_eq (tgt := 29) hx hb dX3_grows_22 (by decide) (fun c_22_37 => ?_) (fun c_22_37 => ?_)
      · refine lv_iconst (v := (-1)) hx hb dX3_grows_29 (by decide) ?_
        refine wa_ist hx hb hK hP hD hS 11 10 rfl rfl j3 rfl (by omega) (by decide) dX3_grows_30 (fun H locs hP hD hS => ?_)
        replace hP : va_P D vwCl (wM h cA (nI n) hd fi un on may asd tx td kp ko ka tr pat pfr rhd rif rul prr prm (upd rd_2 j3 (-1)) bb_3 nw ot ev od) H := hP
        replace hD : va_D A (wM h cA (nI n) hd fi un on may asd tx td kp ko ka tr pat pfr rhd rif rul prr prm (upd rd_2 j3 (-1)) bb_3 nw ot ev od) := hD
        refine lv_aload_n hx hb dX3_grows_31 rfl (lv_at hl 0 rfl) ?_
        refine va_get (D := D) (ci := 3) (v := .ref (h 12)) (C := RX3) (T := TX3) (N := 26) hx hb hts hinX3 hown hK hP 0 rfl rfl 21 (by decide) (hts (.fieldLink RX3 44 "HoldUnlessModel" "by" "[I") (by decide +kernel)) (fun _ h9 => h9) rfl dX3_grows_32 ?_
        refine lv_iload hx hb dX3_grows_35 (lv_at hl 4 rfl) ?_
        refine lv_bipush (v := (-9)) hx hb dX3_grows_37 (by decide) ?_
        refine wa_ist hx hb hK hP hD hS 12 11 rfl rfl j3 rfl (by omega) (by decide) dX3_grows_39 (fun H locs hP hD hS => ?_)
        replace hP : va_P D vwCl (wM h cA (nI n) hd fi un on may asd tx td kp ko ka tr pat pfr rhd rif rul prr prm (upd rd_2 j3 (-1)) (upd bb_3 j3 (-9)) nw ot ev od) H := hP
        replace hD : va_D A (wM h cA (nI n) hd fi un on may asd tx td kp ko ka tr pat pfr rhd rif rul prr prm (upd rd_2 j3 (-1)) (upd bb_3 j3 (-9)) nw ot ev od) := hD
        refine lv_iinc (v := nI (j3 + 1)) (lv' := [(4, .int (nI (j3 + 1))), (0, .ref (h 0)), (1, .int facts), (2, .int sme), (3, .int against)]) hx hb dX3_grows_40 hl (k := 4) rfl (inc_nI j3) (by decide) rfl (fun ls hl => ?_)
        refine lv_goto (tgt := 3) hx hb dX3_grows_43 (by decide) ?_
        exact ih3 (j3 + 1) (by omega) () (itr_step he3 (by (unfold f_X3_grows__v_3; (try dsimp only); (try rw [if_pos c_22_37]); first | done | rfl)))  (upd rd_2 j3 (-1)) (upd bb_3 j3 (-9)) _ _ hP hD hS _ (lv_sub hl [1, 2, 3, 4, 0] rfl)
      · refine lv_iconst (v := 0) hx hb dX3_grows_25 (by decide) ?_
        refine lv_goto (tgt := 30) hx hb dX3_grows_26 (by decide) ?_
        refine wa_ist hx hb hK hP hD hS 11 10 rfl rfl j3 rfl (by omega) (by decide) dX3_grows_30 (fun H locs hP hD hS => ?_)
        replace hP : va_P D vwCl (wM h cA (nI n) hd fi un on may asd tx td kp ko ka tr pat pfr rhd rif rul prr prm (upd rd_2 j3 0) bb_3 nw ot ev od) H := hP
        replace hD : va_D A (wM h cA (nI n) hd fi un on may asd tx td kp ko ka tr pat pfr rhd rif rul prr prm (upd rd_2 j3 0) bb_3 nw ot ev od) := hD
        refine lv_aload_n hx hb dX3_grows_31 rfl (lv_at hl 0 rfl) ?_
        refine va_get (D := D) (ci := 3) (v := .ref (h 12)) (C := RX3) (T := TX3) (N := 26) hx hb hts hinX3 hown hK hP 0 rfl rfl 21 (by decide) (hts (.fieldLink RX3 44 "HoldUnlessModel" "by" "[I") (by decide +kernel)) (fun _ h9 => h9) rfl dX3_grows_32 ?_
        refine lv_iload hx hb dX3_grows_35 (lv_at hl 4 rfl) ?_
        refine lv_bipush (v := (-9)) hx hb dX3_grows_37 (by decide) ?_
        refine wa_ist hx hb hK hP hD hS 12 11 rfl rfl j3 rfl (by omega) (by decide) dX3_grows_39 (fun H locs hP hD hS => ?_)
        replace hP : va_P D vwCl (wM h cA (nI n) hd fi un on may asd tx td kp ko ka tr pat pfr rhd rif rul prr prm (upd rd_2 j3 0) (upd bb_3 j3 (-9)) nw ot ev od) H := hP
        replace hD : va_D A (wM h cA (nI n) hd fi un on may asd tx td kp ko ka tr pat pfr rhd rif rul prr prm (upd rd_2 j3 0) (upd bb_3 j3 (-9)) nw ot ev od) := hD
        refine lv_iinc (v := nI (j3 + 1)) (lv' := [(4, .int (nI (j3 + 1))), (0, .ref (h 0)), (1, .int facts), (2, .int sme), (3, .int against)]) hx hb dX3_grows_40 hl (k := 4) rfl (inc_nI j3) (by decide) rfl (fun ls hl => ?_)
        refine lv_goto (tgt := 3) hx hb dX3_grows_43 (by decide) ?_
        exact ih3 (j3 + 1) (by omega) () (itr_step he3 (by (unfold f_X3_grows__v_3; (try dsimp only); (try rw [if_neg c_22_37]); first | done | rfl)))  (upd rd_2 j3 0) (upd bb_3 j3 (-9)) _ _ hP hD hS _ (lv_sub hl [1, 2, 3, 4, 0] rfl)
  exact lp3_3 8 0 (by omega) () (itr_zero _ _).symm  rd bb _ _ hP hD hS _ (lv_sub hl [1, 2, 3, 4, 0] rfl)

def f_X3_isBanned_5 (hd : Nat → Int32) (fi : Nat → Int32) (un : Nat → Int32) (set : Int32) (sme : Int32) (j5 : Nat) (st : Int32) : Int32 := match st with | is3 => (if is3 = 0 then (if (s_X3_has sme (nI j5)) = 0 then 0 else (if (hd j5) = 8 then (if ((fi j5) &&& (set ^^^ (-1))) = 0 then (if ((un j5) &&& set) = 0 then 1 else 0) else 0) else 0)) else 1)
def s_X3_isBanned (n : Nat) (hd : Nat → Int32) (fi : Nat → Int32) (un : Nat → Int32) (set : Int32) (sme : Int32) : Int32 := (match itr (f_X3_isBanned_5 hd fi un set sme) 0 n with | is3 => is3)
set_option maxHeartbeats 4000000 in
set_option maxRecDepth 100000 in
theorem c_X3_isBanned (l : Launch) (D : va_G) (h : Nat → Nat) (cA : Nat → ClassId) (n : Nat) (hd : Nat → Int32) (fi : Nat → Int32) (un : Nat → Int32) (on : Int32) (may : Int32) (asd : Int32) (tx : Nat → Int32) (td : Int32) (kp : Nat → Int32) (ko : Nat → Int32) (ka : Nat → Int32) (tr : Int64) (pat : Int32) (pfr : Int32) (rhd : Nat → Int32) (rif : Nat → Int32) (rul : Nat → Int32) (prr : Int32) (prm : Int32) (rd : Nat → Int32) (bb : Nat → Int32) (nw : Nat → Int32) (ot : Nat → Int32) (ev : Nat → Int32) (od : Nat → Int32) (set : Int32) (sme : Int32) (hn : n ≤ 10) (sz : Nat) : Met l yX3_isBanned wsX3_isBanned ({ frames := 1, cells := 0, slots := 0, locals := 21 }) (va_Pc [.ref (h 0), .int set, .int sme] (cPre D (tM h cA) (wM h cA (nI n) hd fi un on may asd tx td kp ko ka tr pat pfr rhd rif rul prr prm rd bb nw ot ev od) sz)) (va_Qi (fun r (_ : Unit) => r = s_X3_isBanned n hd fi un set sme) (fun _ _ => True) (fun q => sz ≤ q)) 0 0 (fun q => sz ≤ q) := by
  refine Met.ofW (cc := cX3_isBanned) (maxL := 5) (ret := (some .boolean)) (by decide) rfl ?_
  intro p e s m args below meth c s₁ B hml hv
  obtain ⟨rfl, hsz, hP, hK, hD, hN⟩ := hv
  have hx := B.exec
  have hb := B.bytes
  have hr := B.returns
  have hts := atoms_spec (ws := wsX3_isBanned) B.pre
  have hown : s.vm.findClass RX3 = some m.cls := findClass_of_methodNamed B.named
  have hlocks := B.notSynchronized
  have hinX3 : ∀ w ∈ wsX30, w ∈ wsX3_isBanned := fun w h => List.mem_cons_of_mem _ (List.mem_append_right _ h)
  subst hsz
  obtain ⟨A, hAe⟩ : ∃ A : Nat → Prop, A = (fun q : Nat => s.heap.size ≤ q) := ⟨_, rfl⟩
  have hA : ∀ q : Nat, s.heap.size ≤ q → A q := fun q h => by rw [hAe]; exact h
  have hS : va_S A s.heap s.heap [] := va_S.rf
  subst hAe
  have hl := lv_entry ([.ref (h 0), .int set, .int sme]) (n := 5) (Nat.le_of_ble_eq_true rfl)
  rw [lg_entry_eq]
  generalize (lg_sl ([.ref (h 0), .int set, .int sme]) ++ List.replicate (5 - (lg_sl ([.ref (h 0), .int set, .int sme])).length) Slot.unset).toArray = ls at hl ⊢
  replace hl : lv_has ls 5 [(0, .ref (h 0)), (1, .int set), (2, .int sme)] := hl
  have hKe := hK.sub (tys' := []) [] rfl
  refine lv_iconst (v := 0) hx hb dX3_isBanned_0 (by decide) ?_
  refine lv_istore_n (lv' := [(3, .int 0), (0, .ref (h 0)), (1, .int set), (2, .int sme)]) hx hb dX3_isBanned_1 rfl hl (by decide) rfl (fun ls hl => ?_)
  refine lv_iconst (v := 0) hx hb dX3_isBanned_2 (by decide) ?_
  refine lv_istore (lv' := [(4, .int 0), (3, .int 0), (0, .ref (h 0)), (1, .int set), (2, .int sme)]) hx hb dX3_isBanned_3 hl (by decide) rfl (fun ls hl => ?_)
  have lp5_1 : ∀ (z_1 j5 : Nat), j5 + z_1 = n → ∀ (is3 : Int32), is3 = itr (f_X3_isBanned_5 hd fi un set sme) 0 j5 → (is3 = 0 ∨ is3 = 1) → ∀  (H : Heap) (locs : List Loc), va_P D vwCl (wM h cA (nI n) hd fi un on may asd tx td kp ko ka tr pat pfr rhd rif rul prr prm rd bb nw ot ev od) H → va_S (fun q : Nat => s.heap.size ≤ q) s.heap H locs → ∀ ls : Array Slot, lv_has ls 5 [(0, .ref (h 0)), (1, .int set), (2, .int sme), (3, .int is3), (4, .int (nI j5))] → W p l e (headSpec wsX3_isBanned ({ frames := 1, cells := 0, slots := 0, locals := 21 })).room s m ([.ref (h 0), .int set, .int sme] : List Value).toArray below meth c H locs 0 0 (MQ below (va_Qi (fun r (_ : Unit) => r = s_X3_isBanned n hd fi un set sme) (fun _ _ => True) (fun q => s.heap.size ≤ q)) ([.ref (h 0), .int set, .int sme] : List Value).toArray s 0 0 (fun q => s.heap.size ≤ q)) (F0 m 5 ls []) := by
    intro z_1
    induction z_1 with
    | zero =>
      intro j5 hj5 is3 he5 hz  H locs hP hS ls hl
      obtain rfl : n = j5 := by omega
      refine lv_iload hx hb dX3_isBanned_5 (lv_at hl 4 rfl) ?_
      refine lv_aload_n hx hb dX3_isBanned_7 rfl (lv_at hl 0 rfl) ?_
      refine va_get (D := D) (ci := 3) (v := .int (nI n)) (C := RX3) (T := TX3) (N := 26) hx hb hts hinX3 hown hK hP 0 rfl rfl 0 (by decide) (hts (.fieldLink RX3 59 "HoldUnlessModel" "rules" "I") (by decide +kernel)) (fun _ h9 => h9) rfl dX3_isBanned_8 ?_
      refine lv_icmp_ge (tgt := 77) hx hb dX3_isBanned_11 (by decide) (fun _ => ?_) (fun hh_3 => absurd (nI_le (a := n) (b := n) (by omega) (by omega)) hh_3)
      refine lv_iload_n hx hb dX3_isBanned_77 rfl (lv_at hl 3 rfl) ?_
      exact ro_zret hx hb hr hS hlocks (show s_X3_isBanned n hd fi un set sme = is3 from by (unfold s_X3_isBanned; (try dsimp only); (try rw [← he5]); (try dsimp only); first | done | rfl)).symm (by rcases hz with h | h <;> (subst h; decide +kernel)) dX3_isBanned_78
    | succ z_1 ih5 =>
      intro j5 hj5 is3 he5 hz  H locs hP hS ls hl
      refine lv_iload hx hb dX3_isBanned_5 (lv_at hl 4 rfl) ?_
      refine lv_aload_n hx hb dX3_isBanned_7 rfl (lv_at hl 0 rfl) ?_
      refine va_get (D := D) (ci := 3) (v := .int (nI n)) (C := RX3) (T := TX3) (N := 26) hx hb hts hinX3 hown hK hP 0 rfl rfl 0 (by decide) (hts (.fieldLink RX3 59 "HoldUnlessModel" "rules" "I") (by decide +kernel)) (fun _ h9 => h9) rfl dX3_isBanned_8 ?_
      refine lv_icmp_ge (tgt := 77) hx hb dX3_isBanned_11 (by decide) (fun hh_5 => absurd hh_5 (nI_ge (a := j5) (b := n) (by omega) (by omega))) (fun _ => ?_)
      refine lv_iload_n hx hb dX3_isBanned_14 rfl (lv_at hl 3 rfl) ?_
      refine lv_if_ne (tgt := 65) hx hb dX3_isBanned_15 (by decide) (fun c_15_6 => ?_) (fun c_15_6 => ?_)
      · refine lv_iconst (v := 1) hx hb dX3_isBanned_65 (by decide) ?_
        refine lv_goto (tgt := 70) hx hb dX3_isBanned_66 (by decide) ?_
        refine lv_istore_n (lv' := [(3, .int 1), (0, .ref (h 0)), (1, .int set), (2, .int sme), (4, .int (nI j5))]) hx hb dX3_isBanned_70 rfl hl (by decide) rfl (fun ls hl => ?_)
        refine lv_iinc (v := nI (j5 + 1)) (lv' := [(4, .int (nI (j5 + 1))), (3, .int 1), (0, .ref (h 0)), (1, .int set), (2, .int sme)]) hx hb dX3_isBanned_71 hl (k := 4) rfl (inc_nI j5) (by decide) rfl (fun ls hl => ?_)
        refine lv_goto (tgt := 5) hx hb dX3_isBanned_74 (by decide) ?_
        exact ih5 (j5 + 1) (by omega) 1 (itr_step he5 (by (unfold f_X3_isBanned_5; (try dsimp only); (try rw [if_neg c_15_6]); first | done | rfl))) (by first | exact Or.inl rfl | exact Or.inr rfl)  _ _ hP hS _ (lv_sub hl [2, 3, 4, 1, 0] rfl)
      · refine lv_iload_n hx hb dX3_isBanned_18 rfl (lv_at hl 2 rfl) ?_
        refine lv_iload hx hb dX3_isBanned_19 (lv_at hl 4 rfl) ?_
        refine ro_i (D := D) (va_runS (As := [.int sme, .int (nI j5)]) (rest := []) ⟨hx, hb, hml, hown, hts⟩ (c_X3_has l D sme (nI j5)  _) (va_cwS 2 hts gX3_isBanned_X3_has rfl rfl rfl (by decide +kernel) ⟨Nat.le_of_ble_eq_true rfl, Nat.le_of_ble_eq_true rfl⟩) ⟨cPre.blind, cPre.mk vP0 hKe vD0 hN⟩ rfl rfl hl.1 rfl (lv_room (Nat.le_of_ble_eq_true rfl)) dX3_isBanned_21 ⟨Nat.zero_le _, Nat.zero_le _⟩) hS hA (fun H locs hkp0 hS => ?_)
        replace hP := hkp0 _ hP
        refine lv_if_eq (tgt := 69) hx hb dX3_isBanned_24 (by decide) (fun c_24_7 => ?_) (fun c_24_7 => ?_)
        · refine lv_iconst (v := 0) hx hb dX3_isBanned_69 (by decide) ?_
          refine lv_istore_n (lv' := [(3, .int 0), (0, .ref (h 0)), (1, .int set), (2, .int sme), (4, .int (nI j5))]) hx hb dX3_isBanned_70 rfl hl (by decide) rfl (fun ls hl => ?_)
          refine lv_iinc (v := nI (j5 + 1)) (lv' := [(4, .int (nI (j5 + 1))), (3, .int 0), (0, .ref (h 0)), (1, .int set), (2, .int sme)]) hx hb dX3_isBanned_71 hl (k := 4) rfl (inc_nI j5) (by decide) rfl (fun ls hl => ?_)
          refine lv_goto (tgt := 5) hx hb dX3_isBanned_74 (by decide) ?_
          exact ih5 (j5 + 1) (by omega) 0 (itr_step he5 (by (unfold f_X3_isBanned_5; (try dsimp only); (try rw [if_pos c_15_6]); (try rw [if_pos c_24_7]); first | done | rfl))) (by first | exact Or.inl rfl | exact Or.inr rfl)  _ _ hP hS _ (lv_sub hl [2, 3, 4, 1, 0] rfl)
        · refine lv_aload_n hx hb dX3_isBanned_27 rfl (lv_at hl 0 rfl) ?_
          refine va_get (D := D) (ci := 3) (v := .ref (h 1)) (C := RX3) (T := TX3) (N := 26) hx hb hts hinX3 hown hK hP 0 rfl rfl 1 (by decide) (hts (.fieldLink RX3 7 "HoldUnlessModel" "head" "[I") (by decide +kernel)) (fun _ h9 => h9) rfl dX3_isBanned_28 ?_
          refine lv_iload hx hb dX3_isBanned_31 (lv_at hl 4 rfl) ?_
          refine wa_ild hx hb hK hP 1 0 rfl rfl j5 rfl (by omega) (by decide) dX3_isBanned_33 ?_
          refine lv_bipush (v := 8) hx hb dX3_isBanned_34 (by decide) ?_
          refine lv_icmp_ne (tgt := 69) hx hb dX3_isBanned_36 (by decide) (fun c_36_8 => ?_) (fun c_36_8 => ?_)
          · refine lv_iconst (v := 0) hx hb dX3_isBanned_69 (by decide) ?_
            refine lv_istore_n (lv' := [(3, .int 0), (0, .ref (h 0)), (1, .int set), (2, .int sme), (4, .int (nI j5))]) hx hb dX3_isBanned_70 rfl hl (by decide) rfl (fun ls hl => ?_)
            refine lv_iinc (v := nI (j5 + 1)) (lv' := [(4, .int (nI (j5 + 1))), (3, .int 0), (0, .ref (h 0)), (1, .int set), (2, .int sme)]) hx hb dX3_isBanned_71 hl (k := 4) rfl (inc_nI j5) (by decide) rfl (fun ls hl => ?_)
            refine lv_goto (tgt := 5) hx hb dX3_isBanned_74 (by decide) ?_
            exact ih5 (j5 + 1) (by omega) 0 (itr_step he5 (by (unfold f_X3_isBanned_5; (try dsimp only); (try rw [if_pos c_15_6]); (try rw [if_neg c_24_7]); (try rw [if_neg c_36_8]); first | done | rfl))) (by first | exact Or.inl rfl | exact Or.inr rfl)  _ _ hP hS _ (lv_sub hl [2, 3, 4, 1, 0] rfl)
          · refine lv_aload_n hx hb dX3_isBanned_39 rfl (lv_at hl 0 rfl) ?_
            refine va_get (D := D) (ci := 3) (v := .ref (h 2)) (C := RX3) (T := TX3) (N := 26) hx hb hts hinX3 hown hK hP 0 rfl rfl 2 (by decide) (hts (.fieldLink RX3 13 "HoldUnlessModel" "ifs" "[I") (by decide +kernel)) (fun _ h9 => h9) rfl dX3_isBanned_40 ?_
            refine lv_iload hx hb dX3_isBanned_43 (lv_at hl 4 rfl) ?_
            refine wa_ild hx hb hK hP 2 1 rfl rfl j5 rfl (by omega) (by decide) dX3_isBanned_45 ?_
            refine lv_iload_n hx hb dX3_isBanned_46 rfl (lv_at hl 1 rfl) ?_
            refine lv_iconst (v := (-1)) hx hb dX3_isBanned_47 (by decide) ?_
            refine lv_ixor hx hb dX3_isBanned_48 ?_
            refine lv_iand hx hb dX3_isBanned_49 ?_
            refine lv_if_ne (tgt := 69) hx hb dX3_isBanned_50 (by decide) (fun c_50_9 => ?_) (fun c_50_9 => ?_)
            · refine lv_iconst (v := 0) hx hb dX3_isBanned_69 (by decide) ?_
              refine lv_istore_n (lv' := [(3, .int 0), (0, .ref (h 0)), (1, .int set), (2, .int sme), (4, .int (nI j5))]) hx hb dX3_isBanned_70 rfl hl (by decide) rfl (fun ls hl => ?_)
              refine lv_iinc (v := nI (j5 + 1)) (lv' := [(4, .int (nI (j5 + 1))), (3, .int 0), (0, .ref (h 0)), (1, .int set), (2, .int sme)]) hx hb dX3_isBanned_71 hl (k := 4) rfl (inc_nI j5) (by decide) rfl (fun ls hl => ?_)
              refine lv_goto (tgt := 5) hx hb dX3_isBanned_74 (by decide) ?_
              exact ih5 (j5 + 1) (by omega) 0 (itr_step he5 (by (unfold f_X3_isBanned_5; (try dsimp only); (try rw [if_pos c_15_6]); (try rw [if_neg c_24_7]); (try rw [if_pos c_36_8]); (try rw [if_neg c_50_9]); first | done | rfl))) (by first | exact Or.inl rfl | exact Or.inr rfl)  _ _ hP hS _ (lv_sub hl [2, 3, 4, 1, 0] rfl)
            · refine lv_aload_n hx hb dX3_isBanned_53 rfl (lv_at hl 0 rfl) ?_
              refine va_get (D := D) (ci := 3) (v := .ref (h 3)) (C := RX3) (T := TX3) (N := 26) hx hb hts hinX3 hown hK hP 0 rfl rfl 3 (by decide) (hts (.fieldLink RX3 16 "HoldUnlessModel" "unless" "[I") (by decide +kernel)) (fun _ h9 => h9) rfl dX3_isBanned_54 ?_
              refine lv_iload hx hb dX3_isBanned_57 (lv_at hl 4 rfl) ?_
              refine wa_ild hx hb hK hP 3 2 rfl rfl j5 rfl (by omega) (by decide) dX3_isBanned_59 ?_
              refine lv_iload_n hx hb dX3_isBanned_60 rfl (lv_at hl 1 rfl) ?_
              refine lv_iand hx hb dX3_isBanned_61 ?_
              refine lv_if_ne (tgt := 69) hx hb dX3_isBanned_62 (by decide) (fun c_62_10 => ?_) (fun c_62_10 => ?_)
              · refine lv_iconst (v := 0) hx hb dX3_isBanned_69 (by decide) ?_
                refine lv_istore_n (lv' := [(3, .int 0), (0, .ref (h 0)), (1, .int set), (2, .int sme), (4, .int (nI j5))]) hx hb dX3_isBanned_70 rfl hl (by decide) rfl (fun ls hl => ?_)
                refine lv_iinc (v := nI (j5 + 1)) (lv' := [(4, .int (nI (j5 + 1))), (3, .int 0), (0, .ref (h 0)), (1, .int set), (2, .int sme)]) hx hb dX3_isBanned_71 hl (k := 4) rfl (inc_nI j5) (by decide) rfl (fun ls hl => ?_)
                refine lv_goto (tgt := 5) hx hb dX3_isBanned_74 (by decide) ?_
                exact ih5 (j5 + 1) (by omega) 0 (itr_step he5 (by (unfold f_X3_isBanned_5; (try dsimp only); (try rw [if_pos c_15_6]); (try rw [if_neg c_24_7]); (try rw [if_pos c_36_8]); (try rw [if_pos c_50_9]); (try rw [if_neg c_62_10]); first | done | rfl))) (by first | exact Or.inl rfl | exact Or.inr rfl)  _ _ hP hS _ (lv_sub hl [2, 3, 4, 1, 0] rfl)
              · refine lv_iconst (v := 1) hx hb dX3_isBanned_65 (by decide) ?_
                refine lv_goto (tgt := 70) hx hb dX3_isBanned_66 (by decide) ?_
                refine lv_istore_n (lv' := [(3, .int 1), (0, .ref (h 0)), (1, .int set), (2, .int sme), (4, .int (nI j5))]) hx hb dX3_isBanned_70 rfl hl (by decide) rfl (fun ls hl => ?_)
                refine lv_iinc (v := nI (j5 + 1)) (lv' := [(4, .int (nI (j5 + 1))), (3, .int 1), (0, .ref (h 0)), (1, .int set), (2, .int sme)]) hx hb dX3_isBanned_71 hl (k := 4) rfl (inc_nI j5) (by decide) rfl (fun ls hl => ?_)
                refine lv_goto (tgt := 5) hx hb dX3_isBanned_74 (by decide) ?_
                exact ih5 (j5 + 1) (by omega) 1 (itr_step he5 (by (unfold f_X3_isBanned_5; (try dsimp only); (try rw [if_pos c_15_6]); (try rw [if_neg c_24_7]); (try rw [if_pos c_36_8]); (try rw [if_pos c_50_9]); (try rw [if_pos c_62_10]); first | done | rfl))) (by first | exact Or.inl rfl | exact Or.inr rfl)  _ _ hP hS _ (lv_sub hl [2, 3, 4, 1, 0] rfl)
  exact lp5_1 n 0 (by omega) 0 (itr_zero _ _).symm (Or.inl rfl)  _ _ hP hS _ (lv_sub hl [2, 3, 4, 1, 0] rfl)

def s_X3_doesStand (n : Nat) (hd : Nat → Int32) (fi : Nat → Int32) (un : Nat → Int32) (may : Int32) (set : Int32) (sme : Int32) (facts : Int32) : Int32 := (if (facts &&& (set ^^^ (-1))) = 0 then (if (s_X3_isBanned n hd fi un set sme) = 0 then (if (s_X3_grows__v n hd fi un (facts ||| (may &&& set)) sme set) = set then 1 else 0) else 0) else 0)
set_option maxHeartbeats 4000000 in
set_option maxRecDepth 100000 in
theorem c_X3_doesStand (l : Launch) (D : va_G) (h : Nat → Nat) (cA : Nat → ClassId) (n : Nat) (hd : Nat → Int32) (fi : Nat → Int32) (un : Nat → Int32) (on : Int32) (may : Int32) (asd : Int32) (tx : Nat → Int32) (td : Int32) (kp : Nat → Int32) (ko : Nat → Int32) (ka : Nat → Int32) (tr : Int64) (pat : Int32) (pfr : Int32) (rhd : Nat → Int32) (rif : Nat → Int32) (rul : Nat → Int32) (prr : Int32) (prm : Int32) (rd : Nat → Int32) (bb : Nat → Int32) (nw : Nat → Int32) (ot : Nat → Int32) (ev : Nat → Int32) (od : Nat → Int32) (set : Int32) (sme : Int32) (facts : Int32) (hn : n ≤ 10) (hhd : ∀ k : Nat, k < n → ¬ hd k = 8 → vp_in (hd k) 8) (sz : Nat) : Met l yX3_doesStand wsX3_doesStand ({ frames := 2, cells := 0, slots := 0, locals := 49 }) (va_Pc [.ref (h 0), .int set, .int sme, .int facts] (cPre D (tM h cA) (wM h cA (nI n) hd fi un on may asd tx td kp ko ka tr pat pfr rhd rif rul prr prm rd bb nw ot ev od) sz)) (va_Qi (fun (r : Int32) (u : (Nat → Int32) × (Nat → Int32)) => r = s_X3_doesStand n hd fi un may set sme facts) (rwB D (fun u : (Nat → Int32) × (Nat → Int32) => (wM h cA (nI n) hd fi un on may asd tx td kp ko ka tr pat pfr rhd rif rul prr prm u.1 u.2 nw ot ev od)) (va_A (wM h cA (nI n) hd fi un on may asd tx td kp ko ka tr pat pfr rhd rif rul prr prm rd bb nw ot ev od) sz)) (va_A (wM h cA (nI n) hd fi un on may asd tx td kp ko ka tr pat pfr rhd rif rul prr prm rd bb nw ot ev od) sz)) 0 0 (va_A (wM h cA (nI n) hd fi un on may asd tx td kp ko ka tr pat pfr rhd rif rul prr prm rd bb nw ot ev od) sz) := by
  refine Met.ofW (cc := cX3_doesStand) (maxL := 4) (ret := (some .boolean)) (by decide) rfl ?_
  intro p e s m args below meth c s₁ B hml hv
  obtain ⟨rfl, hsz, hP, hK, hD, hN⟩ := hv
  have hx := B.exec
  have hb := B.bytes
  have hr := B.returns
  have hts := atoms_spec (ws := wsX3_doesStand) B.pre
  have hown : s.vm.findClass RX3 = some m.cls := findClass_of_methodNamed B.named
  have hlocks := B.notSynchronized
  have hinX3 : ∀ w ∈ wsX30, w ∈ wsX3_doesStand := fun w h => List.mem_cons_of_mem _ (List.mem_append_right _ h)
  subst hsz
  replace hD := hD.self (sz := s.heap.size)
  generalize hAe : va_A (wM h cA (nI n) hd fi un on may asd tx td kp ko ka tr pat pfr rhd rif rul prr prm rd bb nw ot ev od) s.heap.size = A at hD ⊢
  have hA : ∀ q : Nat, s.heap.size ≤ q → A q := fun q h => by rw [← hAe]; exact Or.inr h
  have hS : va_S A s.heap s.heap [] := va_S.rf
  have hl := lv_entry ([.ref (h 0), .int set, .int sme, .int facts]) (n := 4) (Nat.le_of_ble_eq_true rfl)
  rw [lg_entry_eq]
  generalize (lg_sl ([.ref (h 0), .int set, .int sme, .int facts]) ++ List.replicate (4 - (lg_sl ([.ref (h 0), .int set, .int sme, .int facts])).length) Slot.unset).toArray = ls at hl ⊢
  replace hl : lv_has ls 4 [(0, .ref (h 0)), (1, .int set), (2, .int sme), (3, .int facts)] := hl
  have hKe := hK.sub (tys' := []) [] rfl
  refine lv_iload_n hx hb dX3_doesStand_0 rfl (lv_at hl 3 rfl) ?_
  refine lv_iload_n hx hb dX3_doesStand_1 rfl (lv_at hl 1 rfl) ?_
  refine lv_iconst (v := (-1)) hx hb dX3_doesStand_2 (by decide) ?_
  refine lv_ixor hx hb dX3_doesStand_3 ?_
  refine lv_iand hx hb dX3_doesStand_4 ?_
  refine lv_if_ne (tgt := 39) hx hb dX3_doesStand_5 (by decide) (fun c_5_1 => ?_) (fun c_5_1 => ?_)
  · refine lv_iconst (v := 0) hx hb dX3_doesStand_39 (by decide) ?_
    exact rw_zret hx hb hr hS hlocks (rd, bb) (show s_X3_doesStand n hd fi un may set sme facts = 0 from by (unfold s_X3_doesStand; (try dsimp only); (try rw [if_neg c_5_1]); first | done | rfl)).symm hP hD (by decide +kernel) dX3_doesStand_40
  · refine lv_aload_n hx hb dX3_doesStand_8 rfl (lv_at hl 0 rfl) ?_
    refine lv_iload_n hx hb dX3_doesStand_9 rfl (lv_at hl 1 rfl) ?_
    refine lv_iload_n hx hb dX3_doesStand_10 rfl (lv_at hl 2 rfl) ?_
    refine ro_i (D := D) (va_runV (As := [.int set, .int sme]) (rest := []) ⟨hx, hb, hml, hown, hts⟩ (c_X3_isBanned l D h cA n hd fi un on may asd tx td kp ko ka tr pat pfr rhd rif rul prr prm rd bb nw ot ev od set sme (by first | assumption | omega) _) (cwV 2 hts gX3_doesStand_X3_isBanned rfl rfl rfl (by decide +kernel) ⟨Nat.le_of_ble_eq_true rfl, Nat.le_of_ble_eq_true rfl⟩) ⟨cPre.blind, va_recv hK hP (ci := 3) (q0 := 0) rfl rfl, cPre.mk hP hK hD hN⟩ rfl rfl hl.1 rfl (lv_room (Nat.le_of_ble_eq_true rfl)) dX3_doesStand_11 ⟨Nat.zero_le _, Nat.zero_le _⟩) hS hA (fun H locs hkp0 hS => ?_)
    replace hP := hkp0 _ hP
    refine lv_if_ne (tgt := 39) hx hb dX3_doesStand_14 (by decide) (fun c_14_2 => ?_) (fun c_14_2 => ?_)
    · refine lv_iconst (v := 0) hx hb dX3_doesStand_39 (by decide) ?_
      exact rw_zret hx hb hr hS hlocks (rd, bb) (show s_X3_doesStand n hd fi un may set sme facts = 0 from by (unfold s_X3_doesStand; (try dsimp only); (try rw [if_pos c_5_1]); (try rw [if_neg c_14_2]); first | done | rfl)).symm hP hD (by decide +kernel) dX3_doesStand_40
    · refine lv_aload_n hx hb dX3_doesStand_17 rfl (lv_at hl 0 rfl) ?_
      refine lv_iload_n hx hb dX3_doesStand_18 rfl (lv_at hl 3 rfl) ?_
      refine lv_aload_n hx hb dX3_doesStand_19 rfl (lv_at hl 0 rfl) ?_
      refine va_get (D := D) (ci := 3) (v := .int may) (C := RX3) (T := TX3) (N := 26) hx hb hts hinX3 hown hK hP 0 rfl rfl 5 (by decide) (hts (.fieldLink RX3 117 "HoldUnlessModel" "may" "I") (by decide +kernel)) (fun _ h9 => h9) rfl dX3_doesStand_20 ?_
      refine lv_iload_n hx hb dX3_doesStand_23 rfl (lv_at hl 1 rfl) ?_
      refine lv_iand hx hb dX3_doesStand_24 ?_
      refine lv_ior hx hb dX3_doesStand_25 ?_
      refine lv_iload_n hx hb dX3_doesStand_26 rfl (lv_at hl 2 rfl) ?_
      refine lv_iload_n hx hb dX3_doesStand_27 rfl (lv_at hl 1 rfl) ?_
      have hFc := va_free (wc := (wM h cA (nI n) hd fi un on may asd tx td kp ko ka tr pat pfr rhd rif rul prr prm rd bb nw ot ev od)) hD hS hA [0, 1, 2, 3, 4, 5, 6, 7, 8, 9, 10, 11, 12, 13, 14, 15, 16] rfl
      refine rw_i (D := D) (wc := (wM h cA (nI n) hd fi un on may asd tx td kp ko ka tr pat pfr rhd rif rul prr prm rd bb nw ot ev od)) (va_runV (As := [.int (facts ||| (may &&& set)), .int sme, .int set]) (rest := []) ⟨hx, hb, hml, hown, hts⟩ (c_X3_grows__v l D h cA n hd fi un on may asd tx td kp ko ka tr pat pfr rhd rif rul prr prm rd bb nw ot ev od (facts ||| (may &&& set)) sme set (by first | assumption | omega) hhd _) (cwV 3 hts gX3_doesStand_X3_grows rfl rfl rfl (by decide +kernel) ⟨Nat.le_of_ble_eq_true rfl, Nat.le_of_ble_eq_true rfl⟩) ⟨cPre.blind, va_recv hK hP (ci := 3) (q0 := 0) rfl rfl, cPre.mk hP hK hD hN⟩ rfl rfl hl.1 rfl (lv_room (Nat.le_of_ble_eq_true rfl)) dX3_doesStand_28 ⟨Nat.zero_le _, Nat.zero_le _⟩) hS hFc (fun rv_5 u H1 locs hw_6 hP1 hD1 hk1 hS => ?_)
      obtain ⟨rdv_3, bbv_4⟩ := u
      try dsimp only at hw_6
      have hP : va_P D vwCl (wM h cA (nI n) hd fi un on may asd tx td kp ko ka tr pat pfr rhd rif rul prr prm rdv_3 bbv_4 nw ot ev od) H1 := hP1
      have hD : va_D A (wM h cA (nI n) hd fi un on may asd tx td kp ko ka tr pat pfr rhd rif rul prr prm rdv_3 bbv_4 nw ot ev od) := hD1.weaken (fun k q hk h => hFc _ h)
      clear hP1 hD1 hFc hk1
      generalize H1 = H at hP hS ⊢
      subst hw_6
      refine lv_iload_n hx hb dX3_doesStand_31 rfl (lv_at hl 1 rfl) ?_
      refine lv_icmp_ne (tgt := 39) hx hb dX3_doesStand_32 (by decide) (fun c_32_7 => ?_) (fun c_32_7 => ?_)
      · refine lv_iconst (v := 0) hx hb dX3_doesStand_39 (by decide) ?_
        exact rw_zret hx hb hr hS hlocks (rdv_3, bbv_4) (show s_X3_doesStand n hd fi un may set sme facts = 0 from by (unfold s_X3_doesStand; (try dsimp only); (try rw [if_pos c_5_1]); (try rw [if_pos c_14_2]); (try rw [if_neg c_32_7]); first | done | rfl)).symm hP hD (by decide +kernel) dX3_doesStand_40
      · refine lv_iconst (v := 1) hx hb dX3_doesStand_35 (by decide) ?_
        refine lv_goto (tgt := 40) hx hb dX3_doesStand_36 (by decide) ?_
        exact rw_zret hx hb hr hS hlocks (rdv_3, bbv_4) (show s_X3_doesStand n hd fi un may set sme facts = 1 from by (unfold s_X3_doesStand; (try dsimp only); (try rw [if_pos c_5_1]); (try rw [if_pos c_14_2]); (try rw [if_pos c_32_7]); first | done | rfl)).symm hP hD (by decide +kernel) dX3_doesStand_40

