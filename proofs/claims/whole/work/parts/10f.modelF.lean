
def f_X3_findAll__nw_27 (n : Nat) (hd : Nat → Int32) (fi : Nat → Int32) (un : Nat → Int32) (may : Int32) (sme : Int32) (facts : Int32) (j27 : Nat) (st : Int32 × (Nat → Int32)) : Int32 × (Nat → Int32) := match st with | (cnt, nw7) => (if (s_X3_doesStand n hd fi un may (nI j27) sme facts) = 0 then (cnt, nw7) else ((cnt + 1), (upd nw7 (((nI j27) / 32) : Int32).toNatClampNeg ((nw7 (((nI j27) / 32) : Int32).toNatClampNeg) ||| (1 <<< (((nI j27) - (nI j27) / 32 * 32) &&& 31))))))
def f_X3_findAll__nw_6  (j6 : Nat) (st : (Nat → Int32)) : (Nat → Int32) := match st with | nw6 => (upd nw6 j6 0)
def s_X3_findAll__nw (n : Nat) (hd : Nat → Int32) (fi : Nat → Int32) (un : Nat → Int32) (may : Int32) (nw : Nat → Int32) (sme : Int32) (facts : Int32) : Int32 × (Nat → Int32) := (match itr f_X3_findAll__nw_6 nw 8 with | nw6 => (match itr (f_X3_findAll__nw_27 n hd fi un may sme facts) (0, nw6) 256 with | (cnt, nw7) => (cnt, nw7)))
set_option maxHeartbeats 4000000 in
set_option maxRecDepth 100000 in
theorem c_X3_findAll__nw (l : Launch) (D : va_G) (h : Nat → Nat) (cA : Nat → ClassId) (n : Nat) (hd : Nat → Int32) (fi : Nat → Int32) (un : Nat → Int32) (on : Int32) (may : Int32) (asd : Int32) (tx : Nat → Int32) (td : Int32) (kp : Nat → Int32) (ko : Nat → Int32) (ka : Nat → Int32) (tr : Int64) (pat : Int32) (pfr : Int32) (rhd : Nat → Int32) (rif : Nat → Int32) (rul : Nat → Int32) (prr : Int32) (prm : Int32) (rd : Nat → Int32) (bb : Nat → Int32) (nw : Nat → Int32) (ot : Nat → Int32) (ev : Nat → Int32) (od : Nat → Int32) (sme : Int32) (facts : Int32) (hn : n ≤ 10) (hhd : ∀ k : Nat, k < n → ¬ hd k = 8 → vp_in (hd k) 8) (sz : Nat) : Met l yX3_findAll wsX3_findAll ({ frames := 3, cells := 0, slots := 0, locals := 72 }) (va_Pc [.ref (h 0), .ref (h 13), .int sme, .int facts] (cPre D (tM h cA) (wM h cA (nI n) hd fi un on may asd tx td kp ko ka tr pat pfr rhd rif rul prr prm rd bb nw ot ev od) sz)) (va_Qi (fun (r : Int32) (u : (Nat → Int32) × (Nat → Int32) × (Nat → Int32)) => (r, u.1) = s_X3_findAll__nw n hd fi un may nw sme facts) (rwB D (fun u : (Nat → Int32) × (Nat → Int32) × (Nat → Int32) => (wM h cA (nI n) hd fi un on may asd tx td kp ko ka tr pat pfr rhd rif rul prr prm u.2.1 u.2.2 u.1 ot ev od)) (va_A (wM h cA (nI n) hd fi un on may asd tx td kp ko ka tr pat pfr rhd rif rul prr prm rd bb nw ot ev od) sz)) (va_A (wM h cA (nI n) hd fi un on may asd tx td kp ko ka tr pat pfr rhd rif rul prr prm rd bb nw ot ev od) sz)) 0 0 (va_A (wM h cA (nI n) hd fi un on may asd tx td kp ko ka tr pat pfr rhd rif rul prr prm rd bb nw ot ev od) sz) := by
  refine Met.ofW (cc := cX3_findAll) (maxL := 6) (ret := (some .int)) (by decide) rfl ?_
  intro p e s m args below meth c s₁ B hml hv
  obtain ⟨rfl, hsz, hP, hK, hD, hN⟩ := hv
  have hx := B.exec
  have hb := B.bytes
  have hr := B.returns
  have hts := atoms_spec (ws := wsX3_findAll) B.pre
  have hown : s.vm.findClass RX3 = some m.cls := findClass_of_methodNamed B.named
  have hlocks := B.notSynchronized
  subst hsz
  replace hD := hD.self (sz := s.heap.size)
  generalize hAe : va_A (wM h cA (nI n) hd fi un on may asd tx td kp ko ka tr pat pfr rhd rif rul prr prm rd bb nw ot ev od) s.heap.size = A at hD ⊢
  have hA : ∀ q : Nat, s.heap.size ≤ q → A q := fun q h => by rw [← hAe]; exact Or.inr h
  have hS : va_S A s.heap s.heap [] := va_S.rf
  have hl := lv_entry ([.ref (h 0), .ref (h 13), .int sme, .int facts]) (n := 6) (Nat.le_of_ble_eq_true rfl)
  rw [lg_entry_eq]
  generalize (lg_sl ([.ref (h 0), .ref (h 13), .int sme, .int facts]) ++ List.replicate (6 - (lg_sl ([.ref (h 0), .ref (h 13), .int sme, .int facts])).length) Slot.unset).toArray = ls at hl ⊢
  replace hl : lv_has ls 6 [(0, .ref (h 0)), (1, .ref (h 13)), (2, .int sme), (3, .int facts)] := hl
  have hKe := hK.sub (tys' := []) [] rfl
  refine lv_iconst (v := 0) hx hb dX3_findAll_0 (by decide) ?_
  refine lv_istore (lv' := [(4, .int 0), (0, .ref (h 0)), (1, .ref (h 13)), (2, .int sme), (3, .int facts)]) hx hb dX3_findAll_1 hl (by decide) rfl (fun ls hl => ?_)
  refine lv_iconst (v := 0) hx hb dX3_findAll_3 (by decide) ?_
  refine lv_istore (lv' := [(5, .int 0), (4, .int 0), (0, .ref (h 0)), (1, .ref (h 13)), (2, .int sme), (3, .int facts)]) hx hb dX3_findAll_4 hl (by decide) rfl (fun ls hl => ?_)
  have lp6_1 : ∀ (z_1 j6 : Nat), j6 + z_1 = 8 → ∀ (nw6 : Nat → Int32), nw6 = itr f_X3_findAll__nw_6 nw j6 → ∀  (H : Heap) (locs : List Loc), va_P D vwCl (wM h cA (nI n) hd fi un on may asd tx td kp ko ka tr pat pfr rhd rif rul prr prm rd bb nw6 ot ev od) H → va_D A (wM h cA (nI n) hd fi un on may asd tx td kp ko ka tr pat pfr rhd rif rul prr prm rd bb nw6 ot ev od) → va_S A s.heap H locs → ∀ ls : Array Slot, lv_has ls 6 [(0, .ref (h 0)), (1, .ref (h 13)), (2, .int sme), (3, .int facts), (4, .int 0), (5, .int (nI j6))] → W p l e (headSpec wsX3_findAll ({ frames := 3, cells := 0, slots := 0, locals := 72 })).room s m ([.ref (h 0), .ref (h 13), .int sme, .int facts] : List Value).toArray below meth c H locs 0 0 (MQ below (va_Qi (fun (r : Int32) (u : (Nat → Int32) × (Nat → Int32) × (Nat → Int32)) => (r, u.1) = s_X3_findAll__nw n hd fi un may nw sme facts) (rwB D (fun u : (Nat → Int32) × (Nat → Int32) × (Nat → Int32) => (wM h cA (nI n) hd fi un on may asd tx td kp ko ka tr pat pfr rhd rif rul prr prm u.2.1 u.2.2 u.1 ot ev od)) A) A) ([.ref (h 0), .ref (h 13), .int sme, .int facts] : List Value).toArray s 0 0 A) (F0 m 6 ls []) := by
    intro z_1
    induction z_1 with
    | zero =>
      intro j6 hj6 nw6 he6   H locs hP hD hS ls hl
      obtain rfl : 8 = j6 := by omega
      refine lv_iload hx hb dX3_findAll_6 (lv_at hl 5 rfl) ?_
      refine lv_bipush (v := 8) hx hb dX3_findAll_8 (by decide) ?_
      refine lv_icmp_ge (tgt := 24) hx hb dX3_findAll_10 (by decide) (fun _ => ?_) (fun hh_3 => absurd (nI_le (a := 8) (b := 8) (by omega) (by omega)) hh_3)
      refine lv_iconst (v := 0) hx hb dX3_findAll_24 (by decide) ?_
      refine lv_istore (lv' := [(5, .int 0), (0, .ref (h 0)), (1, .ref (h 13)), (2, .int sme), (3, .int facts), (4, .int 0)]) hx hb dX3_findAll_25 hl (by decide) rfl (fun ls hl => ?_)
      have lp27_6 : ∀ (z_4 j27 : Nat), j27 + z_4 = 256 → ∀ (cnt : Int32) (nw7 : Nat → Int32), (cnt, nw7) = itr (f_X3_findAll__nw_27 n hd fi un may sme facts) (0, nw6) j27 → ∀ (rd_5 : Nat → Int32) (bb_6 : Nat → Int32) (H : Heap) (locs : List Loc), va_P D vwCl (wM h cA (nI n) hd fi un on may asd tx td kp ko ka tr pat pfr rhd rif rul prr prm rd_5 bb_6 nw7 ot ev od) H → va_D A (wM h cA (nI n) hd fi un on may asd tx td kp ko ka tr pat pfr rhd rif rul prr prm rd_5 bb_6 nw7 ot ev od) → va_S A s.heap H locs → ∀ ls : Array Slot, lv_has ls 6 [(0, .ref (h 0)), (1, .ref (h 13)), (2, .int sme), (3, .int facts), (4, .int cnt), (5, .int (nI j27))] → W p l e (headSpec wsX3_findAll ({ frames := 3, cells := 0, slots := 0, locals := 72 })).room s m ([.ref (h 0), .ref (h 13), .int sme, .int facts] : List Value).toArray below meth c H locs 0 0 (MQ below (va_Qi (fun (r : Int32) (u : (Nat → Int32) × (Nat → Int32) × (Nat → Int32)) => (r, u.1) = s_X3_findAll__nw n hd fi un may nw sme facts) (rwB D (fun u : (Nat → Int32) × (Nat → Int32) × (Nat → Int32) => (wM h cA (nI n) hd fi un on may asd tx td kp ko ka tr pat pfr rhd rif rul prr prm u.2.1 u.2.2 u.1 ot ev od)) A) A) ([.ref (h 0), .ref (h 13), .int sme, .int facts] : List Value).toArray s 0 0 A) (F0 m 27 ls []) := by
        intro z_4
        induction z_4 with
        | zero =>
          intro j27 hj27 cnt nw7 he27  rd_5 bb_6 H locs hP hD hS ls hl
          obtain rfl : 256 = j27 := by omega
          refine lv_iload hx hb dX3_findAll_27 (lv_at hl 5 rfl) ?_
          refine lv_sipush (v := 255) hx hb dX3_findAll_29 (by decide) ?_
          refine lv_icmp_gt (tgt := 72) hx hb dX3_findAll_32 (by decide) (fun _ => ?_) (fun hh_8 => absurd (nI_lt (a := 255) (b := 256) (by omega) (by omega)) hh_8)
          refine lv_iload hx hb dX3_findAll_72 (lv_at hl 4 rfl) ?_
          exact rw_iret hx hb hr hS hlocks (nw7, rd_5, bb_6) (show s_X3_findAll__nw n hd fi un may nw sme facts = (cnt, nw7) from by (unfold s_X3_findAll__nw; (try dsimp only); (try rw [← he6]); (try dsimp only); (try rw [← he27]); (try dsimp only); first | done | rfl)).symm hP hD dX3_findAll_74
        | succ z_4 ih27 =>
          intro j27 hj27 cnt nw7 he27  rd_5 bb_6 H locs hP hD hS ls hl
          refine lv_iload hx hb dX3_findAll_27 (lv_at hl 5 rfl) ?_
          refine lv_sipush (v := 255) hx hb dX3_findAll_29 (by decide) ?_
          refine lv_icmp_gt (tgt := 72) hx hb dX3_findAll_32 (by decide) (fun hh_10 => absurd hh_10 (nI_nlt (a := 255) (b := j27) (by omega) (by omega))) (fun _ => ?_)
          refine lv_aload_n hx hb dX3_findAll_35 rfl (lv_at hl 0 rfl) ?_
          refine lv_iload hx hb dX3_findAll_36 (lv_at hl 5 rfl) ?_
          refine lv_iload_n hx hb dX3_findAll_38 rfl (lv_at hl 2 rfl) ?_
          refine lv_iload_n hx hb dX3_findAll_39 rfl (lv_at hl 3 rfl) ?_
          have hFc := va_free (wc := (wM h cA (nI n) hd fi un on may asd tx td kp ko ka tr pat pfr rhd rif rul prr prm rd_5 bb_6 nw7 ot ev od)) hD hS hA [0, 1, 2, 3, 4, 5, 6, 7, 8, 9, 10, 11, 12, 13, 14, 15, 16] rfl
          refine rw_i (D := D) (wc := (wM h cA (nI n) hd fi un on may asd tx td kp ko ka tr pat pfr rhd rif rul prr prm rd_5 bb_6 nw7 ot ev od)) (va_runV (As := [.int (nI j27), .int sme, .int facts]) (rest := []) ⟨hx, hb, hml, hown, hts⟩ (c_X3_doesStand l D h cA n hd fi un on may asd tx td kp ko ka tr pat pfr rhd rif rul prr prm rd_5 bb_6 nw7 ot ev od (nI j27) sme facts (by first | assumption | omega) hhd _) (cwV 3 hts gX3_findAll_X3_doesStand rfl rfl rfl (by decide +kernel) ⟨Nat.le_of_ble_eq_true rfl, Nat.le_of_ble_eq_true rfl⟩) ⟨cPre.blind, va_recv hK hP (ci := 3) (q0 := 0) rfl rfl, cPre.mk hP hK hD hN⟩ rfl rfl hl.1 rfl (lv_room (Nat.le_of_ble_eq_true rfl)) dX3_findAll_40 ⟨Nat.zero_le _, Nat.zero_le _⟩) hS hFc (fun rv_13 u H1 locs hw_14 hP1 hD1 hk1 hS => ?_)
          obtain ⟨rdv_11, bbv_12⟩ := u
          try dsimp only at hw_14
          have hP : va_P D vwCl (wM h cA (nI n) hd fi un on may asd tx td kp ko ka tr pat pfr rhd rif rul prr prm rdv_11 bbv_12 nw7 ot ev od) H1 := hP1
          have hD : va_D A (wM h cA (nI n) hd fi un on may asd tx td kp ko ka tr pat pfr rhd rif rul prr prm rdv_11 bbv_12 nw7 ot ev od) := hD1.weaken (fun k q hk h => hFc _ h)
          clear hP1 hD1 hFc hk1
          generalize H1 = H at hP hS ⊢
          subst hw_14
          refine lv_if_eq (tgt := 66) hx hb dX3_findAll_43 (by decide) (fun c_43_15 => ?_) (fun c_43_15 => ?_)
          · refine lv_iinc (v := nI (j27 + 1)) (lv' := [(5, .int (nI (j27 + 1))), (0, .ref (h 0)), (1, .ref (h 13)), (2, .int sme), (3, .int facts), (4, .int cnt)]) hx hb dX3_findAll_66 hl (k := 5) rfl (inc_nI j27) (by decide) rfl (fun ls hl => ?_)
            refine lv_goto (tgt := 27) hx hb dX3_findAll_69 (by decide) ?_
            exact ih27 (j27 + 1) (by omega) cnt nw7 (itr_step he27 (by (unfold f_X3_findAll__nw_27; (try dsimp only); (try rw [if_pos c_43_15]); first | done | rfl)))  rdv_11 bbv_12 _ _ hP hD hS _ (lv_sub hl [1, 2, 3, 4, 5, 0] rfl)
          · refine lv_aload_n hx hb dX3_findAll_46 rfl (lv_at hl 1 rfl) ?_
            refine lv_iload hx hb dX3_findAll_47 (lv_at hl 5 rfl) ?_
            refine lv_bipush (v := 32) hx hb dX3_findAll_49 (by decide) ?_
            refine lv_idiv hx hb dX3_findAll_51 (by decide) ?_
            refine lv_dup2_11 hx hb dX3_findAll_52 rfl rfl ?_
            refine va_iald hx hb hK hP 13 12 rfl rfl ((vp_div32 (by omega))) dX3_findAll_53 ?_
            refine lv_iconst (v := 1) hx hb dX3_findAll_54 (by decide) ?_
            refine lv_iload hx hb dX3_findAll_55 (lv_at hl 5 rfl) ?_
            refine lv_bipush (v := 32) hx hb dX3_findAll_57 (by decide) ?_
            refine lv_irem hx hb dX3_findAll_59 (by decide) ?_
            refine lv_ishl hx hb dX3_findAll_60 ?_
            refine lv_ior hx hb dX3_findAll_61 ?_
            refine va_iast hx hb hK hP hD hS 13 12 rfl rfl ((vp_div32 (by omega))) dX3_findAll_62 (fun H locs hP hD hS => ?_)
            replace hP : va_P D vwCl (wM h cA (nI n) hd fi un on may asd tx td kp ko ka tr pat pfr rhd rif rul prr prm rdv_11 bbv_12 (upd nw7 (((nI j27) / 32) : Int32).toNatClampNeg ((nw7 (((nI j27) / 32) : Int32).toNatClampNeg) ||| (1 <<< (((nI j27) - (nI j27) / 32 * 32) &&& 31)))) ot ev od) H := hP
            replace hD : va_D A (wM h cA (nI n) hd fi un on may asd tx td kp ko ka tr pat pfr rhd rif rul prr prm rdv_11 bbv_12 (upd nw7 (((nI j27) / 32) : Int32).toNatClampNeg ((nw7 (((nI j27) / 32) : Int32).toNatClampNeg) ||| (1 <<< (((nI j27) - (nI j27) / 32 * 32) &&& 31)))) ot ev od) := hD
            refine lv_iinc (v := (cnt + 1)) (lv' := [(4, .int (cnt + 1)), (0, .ref (h 0)), (1, .ref (h 13)), (2, .int sme), (3, .int facts), (5, .int (nI j27))]) hx hb dX3_findAll_63 hl (k := 4) rfl rfl (by decide) rfl (fun ls hl => ?_)
            refine lv_iinc (v := nI (j27 + 1)) (lv' := [(5, .int (nI (j27 + 1))), (4, .int (cnt + 1)), (0, .ref (h 0)), (1, .ref (h 13)), (2, .int sme), (3, .int facts)]) hx hb dX3_findAll_66 hl (k := 5) rfl (inc_nI j27) (by decide) rfl (fun ls hl => ?_)
            refine lv_goto (tgt := 27) hx hb dX3_findAll_69 (by decide) ?_
            exact ih27 (j27 + 1) (by omega) (cnt + 1) (upd nw7 (((nI j27) / 32) : Int32).toNatClampNeg ((nw7 (((nI j27) / 32) : Int32).toNatClampNeg) ||| (1 <<< (((nI j27) - (nI j27) / 32 * 32) &&& 31)))) (itr_step he27 (by (unfold f_X3_findAll__nw_27; (try dsimp only); (try rw [if_neg c_43_15]); first | done | rfl)))  rdv_11 bbv_12 _ _ hP hD hS _ (lv_sub hl [2, 3, 4, 5, 1, 0] rfl)
      exact lp27_6 256 0 (by omega) 0 nw6 (itr_zero _ _).symm  rd bb _ _ hP hD hS _ (lv_sub hl [1, 2, 3, 4, 5, 0] rfl)
    | succ z_1 ih6 =>
      intro j6 hj6 nw6 he6   H locs hP hD hS ls hl
      refine lv_iload hx hb dX3_findAll_6 (lv_at hl 5 rfl) ?_
      refine lv_bipush (v := 8) hx hb dX3_findAll_8 (by decide) ?_
      refine lv_icmp_ge (tgt := 24) hx hb dX3_findAll_10 (by decide) (fun hh_17 => absurd hh_17 (nI_ge (a := j6) (b := 8) (by omega) (by omega))) (fun _ => ?_)
      refine lv_aload_n hx hb dX3_findAll_13 rfl (lv_at hl 1 rfl) ?_
      refine lv_iload hx hb dX3_findAll_14 (lv_at hl 5 rfl) ?_
      refine lv_iconst (v := 0) hx hb dX3_findAll_16 (by decide) ?_
      refine wa_ist hx hb hK hP hD hS 13 12 rfl rfl j6 rfl (by omega) (by decide) dX3_findAll_17 (fun H locs hP hD hS => ?_)
      replace hP : va_P D vwCl (wM h cA (nI n) hd fi un on may asd tx td kp ko ka tr pat pfr rhd rif rul prr prm rd bb (upd nw6 j6 0) ot ev od) H := hP
      replace hD : va_D A (wM h cA (nI n) hd fi un on may asd tx td kp ko ka tr pat pfr rhd rif rul prr prm rd bb (upd nw6 j6 0) ot ev od) := hD
      refine lv_iinc (v := nI (j6 + 1)) (lv' := [(5, .int (nI (j6 + 1))), (0, .ref (h 0)), (1, .ref (h 13)), (2, .int sme), (3, .int facts), (4, .int 0)]) hx hb dX3_findAll_18 hl (k := 5) rfl (inc_nI j6) (by decide) rfl (fun ls hl => ?_)
      refine lv_goto (tgt := 6) hx hb dX3_findAll_21 (by decide) ?_
      exact ih6 (j6 + 1) (by omega) (upd nw6 j6 0) (itr_step he6 (by (unfold f_X3_findAll__nw_6; (try dsimp only); first | done | rfl)))   _ _ hP hD hS _ (lv_sub hl [1, 2, 3, 4, 5, 0] rfl)
  exact lp6_1 8 0 (by omega) nw (itr_zero _ _).symm   _ _ hP hD hS _ (lv_sub hl [2, 3, 4, 5, 1, 0] rfl)

def f_X3_findAll__ot_27 (n : Nat) (hd : Nat → Int32) (fi : Nat → Int32) (un : Nat → Int32) (may : Int32) (sme : Int32) (facts : Int32) (j27 : Nat) (st : Int32 × (Nat → Int32)) : Int32 × (Nat → Int32) := match st with | (cnt, ot7) => (if (s_X3_doesStand n hd fi un may (nI j27) sme facts) = 0 then (cnt, ot7) else ((cnt + 1), (upd ot7 (((nI j27) / 32) : Int32).toNatClampNeg ((ot7 (((nI j27) / 32) : Int32).toNatClampNeg) ||| (1 <<< (((nI j27) - (nI j27) / 32 * 32) &&& 31))))))
def f_X3_findAll__ot_6  (j6 : Nat) (st : (Nat → Int32)) : (Nat → Int32) := match st with | ot6 => (upd ot6 j6 0)
def s_X3_findAll__ot (n : Nat) (hd : Nat → Int32) (fi : Nat → Int32) (un : Nat → Int32) (may : Int32) (ot : Nat → Int32) (sme : Int32) (facts : Int32) : Int32 × (Nat → Int32) := (match itr f_X3_findAll__ot_6 ot 8 with | ot6 => (match itr (f_X3_findAll__ot_27 n hd fi un may sme facts) (0, ot6) 256 with | (cnt, ot7) => (cnt, ot7)))
set_option maxHeartbeats 4000000 in
set_option maxRecDepth 100000 in
theorem c_X3_findAll__ot (l : Launch) (D : va_G) (h : Nat → Nat) (cA : Nat → ClassId) (n : Nat) (hd : Nat → Int32) (fi : Nat → Int32) (un : Nat → Int32) (on : Int32) (may : Int32) (asd : Int32) (tx : Nat → Int32) (td : Int32) (kp : Nat → Int32) (ko : Nat → Int32) (ka : Nat → Int32) (tr : Int64) (pat : Int32) (pfr : Int32) (rhd : Nat → Int32) (rif : Nat → Int32) (rul : Nat → Int32) (prr : Int32) (prm : Int32) (rd : Nat → Int32) (bb : Nat → Int32) (nw : Nat → Int32) (ot : Nat → Int32) (ev : Nat → Int32) (od : Nat → Int32) (sme : Int32) (facts : Int32) (hn : n ≤ 10) (hhd : ∀ k : Nat, k < n → ¬ hd k = 8 → vp_in (hd k) 8) (sz : Nat) : Met l yX3_findAll wsX3_findAll ({ frames := 3, cells := 0, slots := 0, locals := 72 }) (va_Pc [.ref (h 0), .ref (h 14), .int sme, .int facts] (cPre D (tM h cA) (wM h cA (nI n) hd fi un on may asd tx td kp ko ka tr pat pfr rhd rif rul prr prm rd bb nw ot ev od) sz)) (va_Qi (fun (r : Int32) (u : (Nat → Int32) × (Nat → Int32) × (Nat → Int32)) => (r, u.1) = s_X3_findAll__ot n hd fi un may ot sme facts) (rwB D (fun u : (Nat → Int32) × (Nat → Int32) × (Nat → Int32) => (wM h cA (nI n) hd fi un on may asd tx td kp ko ka tr pat pfr rhd rif rul prr prm u.2.1 u.2.2 nw u.1 ev od)) (va_A (wM h cA (nI n) hd fi un on may asd tx td kp ko ka tr pat pfr rhd rif rul prr prm rd bb nw ot ev od) sz)) (va_A (wM h cA (nI n) hd fi un on may asd tx td kp ko ka tr pat pfr rhd rif rul prr prm rd bb nw ot ev od) sz)) 0 0 (va_A (wM h cA (nI n) hd fi un on may asd tx td kp ko ka tr pat pfr rhd rif rul prr prm rd bb nw ot ev od) sz) := by
  refine Met.ofW (cc := cX3_findAll) (maxL := 6) (ret := (some .int)) (by decide) rfl ?_
  intro p e s m args below meth c s₁ B hml hv
  obtain ⟨rfl, hsz, hP, hK, hD, hN⟩ := hv
  have hx := B.exec
  have hb := B.bytes
  have hr := B.returns
  have hts := atoms_spec (ws := wsX3_findAll) B.pre
  have hown : s.vm.findClass RX3 = some m.cls := findClass_of_methodNamed B.named
  have hlocks := B.notSynchronized
  subst hsz
  replace hD := hD.self (sz := s.heap.size)
  generalize hAe : va_A (wM h cA (nI n) hd fi un on may asd tx td kp ko ka tr pat pfr rhd rif rul prr prm rd bb nw ot ev od) s.heap.size = A at hD ⊢
  have hA : ∀ q : Nat, s.heap.size ≤ q → A q := fun q h => by rw [← hAe]; exact Or.inr h
  have hS : va_S A s.heap s.heap [] := va_S.rf
  have hl := lv_entry ([.ref (h 0), .ref (h 14), .int sme, .int facts]) (n := 6) (Nat.le_of_ble_eq_true rfl)
  rw [lg_entry_eq]
  generalize (lg_sl ([.ref (h 0), .ref (h 14), .int sme, .int facts]) ++ List.replicate (6 - (lg_sl ([.ref (h 0), .ref (h 14), .int sme, .int facts])).length) Slot.unset).toArray = ls at hl ⊢
  replace hl : lv_has ls 6 [(0, .ref (h 0)), (1, .ref (h 14)), (2, .int sme), (3, .int facts)] := hl
  have hKe := hK.sub (tys' := []) [] rfl
  refine lv_iconst (v := 0) hx hb dX3_findAll_0 (by decide) ?_
  refine lv_istore (lv' := [(4, .int 0), (0, .ref (h 0)), (1, .ref (h 14)), (2, .int sme), (3, .int facts)]) hx hb dX3_findAll_1 hl (by decide) rfl (fun ls hl => ?_)
  refine lv_iconst (v := 0) hx hb dX3_findAll_3 (by decide) ?_
  refine lv_istore (lv' := [(5, .int 0), (4, .int 0), (0, .ref (h 0)), (1, .ref (h 14)), (2, .int sme), (3, .int facts)]) hx hb dX3_findAll_4 hl (by decide) rfl (fun ls hl => ?_)
  have lp6_1 : ∀ (z_1 j6 : Nat), j6 + z_1 = 8 → ∀ (ot6 : Nat → Int32), ot6 = itr f_X3_findAll__ot_6 ot j6 → ∀  (H : Heap) (locs : List Loc), va_P D vwCl (wM h cA (nI n) hd fi un on may asd tx td kp ko ka tr pat pfr rhd rif rul prr prm rd bb nw ot6 ev od) H → va_D A (wM h cA (nI n) hd fi un on may asd tx td kp ko ka tr pat pfr rhd rif rul prr prm rd bb nw ot6 ev od) → va_S A s.heap H locs → ∀ ls : Array Slot, lv_has ls 6 [(0, .ref (h 0)), (1, .ref (h 14)), (2, .int sme), (3, .int facts), (4, .int 0), (5, .int (nI j6))] → W p l e (headSpec wsX3_findAll ({ frames := 3, cells := 0, slots := 0, locals := 72 })).room s m ([.ref (h 0), .ref (h 14), .int sme, .int facts] : List Value).toArray below meth c H locs 0 0 (MQ below (va_Qi (fun (r : Int32) (u : (Nat → Int32) × (Nat → Int32) × (Nat → Int32)) => (r, u.1) = s_X3_findAll__ot n hd fi un may ot sme facts) (rwB D (fun u : (Nat → Int32) × (Nat → Int32) × (Nat → Int32) => (wM h cA (nI n) hd fi un on may asd tx td kp ko ka tr pat pfr rhd rif rul prr prm u.2.1 u.2.2 nw u.1 ev od)) A) A) ([.ref (h 0), .ref (h 14), .int sme, .int facts] : List Value).toArray s 0 0 A) (F0 m 6 ls []) := by
    intro z_1
    induction z_1 with
    | zero =>
      intro j6 hj6 ot6 he6   H locs hP hD hS ls hl
      obtain rfl : 8 = j6 := by omega
      refine lv_iload hx hb dX3_findAll_6 (lv_at hl 5 rfl) ?_
      refine lv_bipush (v := 8) hx hb dX3_findAll_8 (by decide) ?_
      refine lv_icmp_ge (tgt := 24) hx hb dX3_findAll_10 (by decide) (fun _ => ?_) (fun hh_3 => absurd (nI_le (a := 8) (b := 8) (by omega) (by omega)) hh_3)
      refine lv_iconst (v := 0) hx hb dX3_findAll_24 (by decide) ?_
      refine lv_istore (lv' := [(5, .int 0), (0, .ref (h 0)), (1, .ref (h 14)), (2, .int sme), (3, .int facts), (4, .int 0)]) hx hb dX3_findAll_25 hl (by decide) rfl (fun ls hl => ?_)
      have lp27_6 : ∀ (z_4 j27 : Nat), j27 + z_4 = 256 → ∀ (cnt : Int32) (ot7 : Nat → Int32), (cnt, ot7) = itr (f_X3_findAll__ot_27 n hd fi un may sme facts) (0, ot6) j27 → ∀ (rd_5 : Nat → Int32) (bb_6 : Nat → Int32) (H : Heap) (locs : List Loc), va_P D vwCl (wM h cA (nI n) hd fi un on may asd tx td kp ko ka tr pat pfr rhd rif rul prr prm rd_5 bb_6 nw ot7 ev od) H → va_D A (wM h cA (nI n) hd fi un on may asd tx td kp ko ka tr pat pfr rhd rif rul prr prm rd_5 bb_6 nw ot7 ev od) → va_S A s.heap H locs → ∀ ls : Array Slot, lv_has ls 6 [(0, .ref (h 0)), (1, .ref (h 14)), (2, .int sme), (3, .int facts), (4, .int cnt), (5, .int (nI j27))] → W p l e (headSpec wsX3_findAll ({ frames := 3, cells := 0, slots := 0, locals := 72 })).room s m ([.ref (h 0), .ref (h 14), .int sme, .int facts] : List Value).toArray below meth c H locs 0 0 (MQ below (va_Qi (fun (r : Int32) (u : (Nat → Int32) × (Nat → Int32) × (Nat → Int32)) => (r, u.1) = s_X3_findAll__ot n hd fi un may ot sme facts) (rwB D (fun u : (Nat → Int32) × (Nat → Int32) × (Nat → Int32) => (wM h cA (nI n) hd fi un on may asd tx td kp ko ka tr pat pfr rhd rif rul prr prm u.2.1 u.2.2 nw u.1 ev od)) A) A) ([.ref (h 0), .ref (h 14), .int sme, .int facts] : List Value).toArray s 0 0 A) (F0 m 27 ls []) := by
        intro z_4
        induction z_4 with
        | zero =>
          intro j27 hj27 cnt ot7 he27  rd_5 bb_6 H locs hP hD hS ls hl
          obtain rfl : 256 = j27 := by omega
          refine lv_iload hx hb dX3_findAll_27 (lv_at hl 5 rfl) ?_
          refine lv_sipush (v := 255) hx hb dX3_findAll_29 (by decide) ?_
          refine lv_icmp_gt (tgt := 72) hx hb dX3_findAll_32 (by decide) (fun _ => ?_) (fun hh_8 => absurd (nI_lt (a := 255) (b := 256) (by omega) (by omega)) hh_8)
          refine lv_iload hx hb dX3_findAll_72 (lv_at hl 4 rfl) ?_
          exact rw_iret hx hb hr hS hlocks (ot7, rd_5, bb_6) (show s_X3_findAll__ot n hd fi un may ot sme facts = (cnt, ot7) from by (unfold s_X3_findAll__ot; (try dsimp only); (try rw [← he6]); (try dsimp only); (try rw [← he27]); (try dsimp only); first | done | rfl)).symm hP hD dX3_findAll_74
        | succ z_4 ih27 =>
          intro j27 hj27 cnt ot7 he27  rd_5 bb_6 H locs hP hD hS ls hl
          refine lv_iload hx hb dX3_findAll_27 (lv_at hl 5 rfl) ?_
          refine lv_sipush (v := 255) hx hb dX3_findAll_29 (by decide) ?_
          refine lv_icmp_gt (tgt := 72) hx hb dX3_findAll_32 (by decide) (fun hh_10 => absurd hh_10 (nI_nlt (a := 255) (b := j27) (by omega) (by omega))) (fun _ => ?_)
          refine lv_aload_n hx hb dX3_findAll_35 rfl (lv_at hl 0 rfl) ?_
          refine lv_iload hx hb dX3_findAll_36 (lv_at hl 5 rfl) ?_
          refine lv_iload_n hx hb dX3_findAll_38 rfl (lv_at hl 2 rfl) ?_
          refine lv_iload_n hx hb dX3_findAll_39 rfl (lv_at hl 3 rfl) ?_
          have hFc := va_free (wc := (wM h cA (nI n) hd fi un on may asd tx td kp ko ka tr pat pfr rhd rif rul prr prm rd_5 bb_6 nw ot7 ev od)) hD hS hA [0, 1, 2, 3, 4, 5, 6, 7, 8, 9, 10, 11, 12, 13, 14, 15, 16] rfl
          refine rw_i (D := D) (wc := (wM h cA (nI n) hd fi un on may asd tx td kp ko ka tr pat pfr rhd rif rul prr prm rd_5 bb_6 nw ot7 ev od)) (va_runV (As := [.int (nI j27), .int sme, .int facts]) (rest := []) ⟨hx, hb, hml, hown, hts⟩ (c_X3_doesStand l D h cA n hd fi un on may asd tx td kp ko ka tr pat pfr rhd rif rul prr prm rd_5 bb_6 nw ot7 ev od (nI j27) sme facts (by first | assumption | omega) hhd _) (cwV 3 hts gX3_findAll_X3_doesStand rfl rfl rfl (by decide +kernel) ⟨Nat.le_of_ble_eq_true rfl, Nat.le_of_ble_eq_true rfl⟩) ⟨cPre.blind, va_recv hK hP (ci := 3) (q0 := 0) rfl rfl, cPre.mk hP hK hD hN⟩ rfl rfl hl.1 rfl (lv_room (Nat.le_of_ble_eq_true rfl)) dX3_findAll_40 ⟨Nat.zero_le _, Nat.zero_le _⟩) hS hFc (fun rv_13 u H1 locs hw_14 hP1 hD1 hk1 hS => ?_)
          obtain ⟨rdv_11, bbv_12⟩ := u
          try dsimp only at hw_14
          have hP : va_P D vwCl (wM h cA (nI n) hd fi un on may asd tx td kp ko ka tr pat pfr rhd rif rul prr prm rdv_11 bbv_12 nw ot7 ev od) H1 := hP1
          have hD : va_D A (wM h cA (nI n) hd fi un on may asd tx td kp ko ka tr pat pfr rhd rif rul prr prm rdv_11 bbv_12 nw ot7 ev od) := hD1.weaken (fun k q hk h => hFc _ h)
          clear hP1 hD1 hFc hk1
          generalize H1 = H at hP hS ⊢
          subst hw_14
          refine lv_if_eq (tgt := 66) hx hb dX3_findAll_43 (by decide) (fun c_43_15 => ?_) (fun c_43_15 => ?_)
          · refine lv_iinc (v := nI (j27 + 1)) (lv' := [(5, .int (nI (j27 + 1))), (0, .ref (h 0)), (1, .ref (h 14)), (2, .int sme), (3, .int facts), (4, .int cnt)]) hx hb dX3_findAll_66 hl (k := 5) rfl (inc_nI j27) (by decide) rfl (fun ls hl => ?_)
            refine lv_goto (tgt := 27) hx hb dX3_findAll_69 (by decide) ?_
            exact ih27 (j27 + 1) (by omega) cnt ot7 (itr_step he27 (by (unfold f_X3_findAll__ot_27; (try dsimp only); (try rw [if_pos c_43_15]); first | done | rfl)))  rdv_11 bbv_12 _ _ hP hD hS _ (lv_sub hl [1, 2, 3, 4, 5, 0] rfl)
          · refine lv_aload_n hx hb dX3_findAll_46 rfl (lv_at hl 1 rfl) ?_
            refine lv_iload hx hb dX3_findAll_47 (lv_at hl 5 rfl) ?_
            refine lv_bipush (v := 32) hx hb dX3_findAll_49 (by decide) ?_
            refine lv_idiv hx hb dX3_findAll_51 (by decide) ?_
            refine lv_dup2_11 hx hb dX3_findAll_52 rfl rfl ?_
            refine va_iald hx hb hK hP 14 13 rfl rfl ((vp_div32 (by omega))) dX3_findAll_53 ?_
            refine lv_iconst (v := 1) hx hb dX3_findAll_54 (by decide) ?_
            refine lv_iload hx hb dX3_findAll_55 (lv_at hl 5 rfl) ?_
            refine lv_bipush (v := 32) hx hb dX3_findAll_57 (by decide) ?_
            refine lv_irem hx hb dX3_findAll_59 (by decide) ?_
            refine lv_ishl hx hb dX3_findAll_60 ?_
            refine lv_ior hx hb dX3_findAll_61 ?_
            refine va_iast hx hb hK hP hD hS 14 13 rfl rfl ((vp_div32 (by omega))) dX3_findAll_62 (fun H locs hP hD hS => ?_)
            replace hP : va_P D vwCl (wM h cA (nI n) hd fi un on may asd tx td kp ko ka tr pat pfr rhd rif rul prr prm rdv_11 bbv_12 nw (upd ot7 (((nI j27) / 32) : Int32).toNatClampNeg ((ot7 (((nI j27) / 32) : Int32).toNatClampNeg) ||| (1 <<< (((nI j27) - (nI j27) / 32 * 32) &&& 31)))) ev od) H := hP
            replace hD : va_D A (wM h cA (nI n) hd fi un on may asd tx td kp ko ka tr pat pfr rhd rif rul prr prm rdv_11 bbv_12 nw (upd ot7 (((nI j27) / 32) : Int32).toNatClampNeg ((ot7 (((nI j27) / 32) : Int32).toNatClampNeg) ||| (1 <<< (((nI j27) - (nI j27) / 32 * 32) &&& 31)))) ev od) := hD
            refine lv_iinc (v := (cnt + 1)) (lv' := [(4, .int (cnt + 1)), (0, .ref (h 0)), (1, .ref (h 14)), (2, .int sme), (3, .int facts), (5, .int (nI j27))]) hx hb dX3_findAll_63 hl (k := 4) rfl rfl (by decide) rfl (fun ls hl => ?_)
            refine lv_iinc (v := nI (j27 + 1)) (lv' := [(5, .int (nI (j27 + 1))), (4, .int (cnt + 1)), (0, .ref (h 0)), (1, .ref (h 14)), (2, .int sme), (3, .int facts)]) hx hb dX3_findAll_66 hl (k := 5) rfl (inc_nI j27) (by decide) rfl (fun ls hl => ?_)
            refine lv_goto (tgt := 27) hx hb dX3_findAll_69 (by decide) ?_
            exact ih27 (j27 + 1) (by omega) (cnt + 1) (upd ot7 (((nI j27) / 32) : Int32).toNatClampNeg ((ot7 (((nI j27) / 32) : Int32).toNatClampNeg) ||| (1 <<< (((nI j27) - (nI j27) / 32 * 32) &&& 31)))) (itr_step he27 (by (unfold f_X3_findAll__ot_27; (try dsimp only); (try rw [if_neg c_43_15]); first | done | rfl)))  rdv_11 bbv_12 _ _ hP hD hS _ (lv_sub hl [2, 3, 4, 5, 1, 0] rfl)
      exact lp27_6 256 0 (by omega) 0 ot6 (itr_zero _ _).symm  rd bb _ _ hP hD hS _ (lv_sub hl [1, 2, 3, 4, 5, 0] rfl)
    | succ z_1 ih6 =>
      intro j6 hj6 ot6 he6   H locs hP hD hS ls hl
      refine lv_iload hx hb dX3_findAll_6 (lv_at hl 5 rfl) ?_
      refine lv_bipush (v := 8) hx hb dX3_findAll_8 (by decide) ?_
      refine lv_icmp_ge (tgt := 24) hx hb dX3_findAll_10 (by decide) (fun hh_17 => absurd hh_17 (nI_ge (a := j6) (b := 8) (by omega) (by omega))) (fun _ => ?_)
      refine lv_aload_n hx hb dX3_findAll_13 rfl (lv_at hl 1 rfl) ?_
      refine lv_iload hx hb dX3_findAll_14 (lv_at hl 5 rfl) ?_
      refine lv_iconst (v := 0) hx hb dX3_findAll_16 (by decide) ?_
      refine wa_ist hx hb hK hP hD hS 14 13 rfl rfl j6 rfl (by omega) (by decide) dX3_findAll_17 (fun H locs hP hD hS => ?_)
      replace hP : va_P D vwCl (wM h cA (nI n) hd fi un on may asd tx td kp ko ka tr pat pfr rhd rif rul prr prm rd bb nw (upd ot6 j6 0) ev od) H := hP
      replace hD : va_D A (wM h cA (nI n) hd fi un on may asd tx td kp ko ka tr pat pfr rhd rif rul prr prm rd bb nw (upd ot6 j6 0) ev od) := hD
      refine lv_iinc (v := nI (j6 + 1)) (lv' := [(5, .int (nI (j6 + 1))), (0, .ref (h 0)), (1, .ref (h 14)), (2, .int sme), (3, .int facts), (4, .int 0)]) hx hb dX3_findAll_18 hl (k := 5) rfl (inc_nI j6) (by decide) rfl (fun ls hl => ?_)
      refine lv_goto (tgt := 6) hx hb dX3_findAll_21 (by decide) ?_
      exact ih6 (j6 + 1) (by omega) (upd ot6 j6 0) (itr_step he6 (by (unfold f_X3_findAll__ot_6; (try dsimp only); first | done | rfl)))   _ _ hP hD hS _ (lv_sub hl [1, 2, 3, 4, 5, 0] rfl)
  exact lp6_1 8 0 (by omega) ot (itr_zero _ _).symm   _ _ hP hD hS _ (lv_sub hl [2, 3, 4, 5, 1, 0] rfl)

def f_X3_ofAll_4 (nw : Nat → Int32) (j4 : Nat) (st : Int32) : Int32 ⊕ (Int32) := match st with | lft => (if (s_X3_has (nw (((nI j4) / 32) : Int32).toNatClampNeg) ((nI j4) - (nI j4) / 32 * 32)) = 0 then (.inr lft) else (if lft = 0 then (.inl (nI j4)) else (.inr (lft + (-1)))))
def s_X3_ofAll (nw : Nat → Int32) (i : Int32) : Int32 := (onE (itE (f_X3_ofAll_4 nw) i 256) (fun st => match st with | lft => (-9)))
set_option maxHeartbeats 4000000 in
set_option maxRecDepth 100000 in
theorem c_X3_ofAll (l : Launch) (D : va_G) (h : Nat → Nat) (cA : Nat → ClassId) (n : Nat) (hd : Nat → Int32) (fi : Nat → Int32) (un : Nat → Int32) (on : Int32) (may : Int32) (asd : Int32) (tx : Nat → Int32) (td : Int32) (kp : Nat → Int32) (ko : Nat → Int32) (ka : Nat → Int32) (tr : Int64) (pat : Int32) (pfr : Int32) (rhd : Nat → Int32) (rif : Nat → Int32) (rul : Nat → Int32) (prr : Int32) (prm : Int32) (rd : Nat → Int32) (bb : Nat → Int32) (nw : Nat → Int32) (ot : Nat → Int32) (ev : Nat → Int32) (od : Nat → Int32) (i : Int32) (hn : n ≤ 10) (sz : Nat) : Met l yX3_ofAll wsX3_ofAll ({ frames := 1, cells := 0, slots := 0, locals := 21 }) (va_Pc [.ref (h 0), .int i] (cPre D (tM h cA) (wM h cA (nI n) hd fi un on may asd tx td kp ko ka tr pat pfr rhd rif rul prr prm rd bb nw ot ev od) sz)) (va_Qi (fun r (_ : Unit) => r = s_X3_ofAll nw i) (fun _ _ => True) (fun q => sz ≤ q)) 0 0 (fun q => sz ≤ q) := by
  refine Met.ofW (cc := cX3_ofAll) (maxL := 4) (ret := (some .int)) (by decide) rfl ?_
  intro p e s m args below meth c s₁ B hml hv
  obtain ⟨rfl, hsz, hP, hK, hD, hN⟩ := hv
  have hx := B.exec
  have hb := B.bytes
  have hr := B.returns
  have hts := atoms_spec (ws := wsX3_ofAll) B.pre
  have hown : s.vm.findClass RX3 = some m.cls := findClass_of_methodNamed B.named
  have hlocks := B.notSynchronized
  have hinX3 : ∀ w ∈ wsX30, w ∈ wsX3_ofAll := fun w h => List.mem_cons_of_mem _ (List.mem_append_right _ h)
  subst hsz
  obtain ⟨A, hAe⟩ : ∃ A : Nat → Prop, A = (fun q : Nat => s.heap.size ≤ q) := ⟨_, rfl⟩
  have hA : ∀ q : Nat, s.heap.size ≤ q → A q := fun q h => by rw [hAe]; exact h
  have hS : va_S A s.heap s.heap [] := va_S.rf
  subst hAe
  have hl := lv_entry ([.ref (h 0), .int i]) (n := 4) (Nat.le_of_ble_eq_true rfl)
  rw [lg_entry_eq]
  generalize (lg_sl ([.ref (h 0), .int i]) ++ List.replicate (4 - (lg_sl ([.ref (h 0), .int i])).length) Slot.unset).toArray = ls at hl ⊢
  replace hl : lv_has ls 4 [(0, .ref (h 0)), (1, .int i)] := hl
  have hKe := hK.sub (tys' := []) [] rfl
  refine lv_iload_n hx hb dX3_ofAll_0 rfl (lv_at hl 1 rfl) ?_
  refine lv_istore_n (lv' := [(2, .int i), (0, .ref (h 0)), (1, .int i)]) hx hb dX3_ofAll_1 rfl hl (by decide) rfl (fun ls hl => ?_)
  refine lv_iconst (v := 0) hx hb dX3_ofAll_2 (by decide) ?_
  refine lv_istore_n (lv' := [(3, .int 0), (2, .int i), (0, .ref (h 0)), (1, .int i)]) hx hb dX3_ofAll_3 rfl hl (by decide) rfl (fun ls hl => ?_)
  have lp4_1 : ∀ (z_1 j4 : Nat), j4 + z_1 = 256 → ∀ (lft : Int32), itE (f_X3_ofAll_4 nw) i j4 = .inr lft → ∀  (H : Heap) (locs : List Loc), va_P D vwCl (wM h cA (nI n) hd fi un on may asd tx td kp ko ka tr pat pfr rhd rif rul prr prm rd bb nw ot ev od) H → va_S (fun q : Nat => s.heap.size ≤ q) s.heap H locs → ∀ ls : Array Slot, lv_has ls 4 [(0, .ref (h 0)), (1, .int i), (2, .int lft), (3, .int (nI j4))] → W p l e (headSpec wsX3_ofAll ({ frames := 1, cells := 0, slots := 0, locals := 21 })).room s m ([.ref (h 0), .int i] : List Value).toArray below meth c H locs 0 0 (MQ below (va_Qi (fun r (_ : Unit) => r = s_X3_ofAll nw i) (fun _ _ => True) (fun q => s.heap.size ≤ q)) ([.ref (h 0), .int i] : List Value).toArray s 0 0 (fun q => s.heap.size ≤ q)) (F0 m 4 ls []) := by
    intro z_1
    induction z_1 with
    | zero =>
      intro j4 hj4 lft he4   H locs hP hS ls hl
      obtain rfl : 256 = j4 := by omega
      refine lv_iload_n hx hb dX3_ofAll_4 rfl (lv_at hl 3 rfl) ?_
      refine lv_sipush (v := 255) hx hb dX3_ofAll_5 (by decide) ?_
      refine lv_icmp_gt (tgt := 45) hx hb dX3_ofAll_8 (by decide) (fun _ => ?_) (fun hh_3 => absurd (nI_lt (a := 255) (b := 256) (by omega) (by omega)) hh_3)
      refine lv_bipush (v := (-9)) hx hb dX3_ofAll_45 (by decide) ?_
      exact ro_iret hx hb hr hS hlocks (show s_X3_ofAll nw i = (-9) from by (unfold s_X3_ofAll; (try dsimp only); (try rw [he4]); (try dsimp only [onE]); first | done | rfl)).symm dX3_ofAll_47
    | succ z_1 ih4 =>
      intro j4 hj4 lft he4   H locs hP hS ls hl
      refine lv_iload_n hx hb dX3_ofAll_4 rfl (lv_at hl 3 rfl) ?_
      refine lv_sipush (v := 255) hx hb dX3_ofAll_5 (by decide) ?_
      refine lv_icmp_gt (tgt := 45) hx hb dX3_ofAll_8 (by decide) (fun hh_5 => absurd hh_5 (nI_nlt (a := 255) (b := j4) (by omega) (by omega))) (fun _ => ?_)
      refine lv_aload_n hx hb dX3_ofAll_11 rfl (lv_at hl 0 rfl) ?_
      refine va_get (D := D) (ci := 3) (v := .ref (h 13)) (C := RX3) (T := TX3) (N := 26) hx hb hts hinX3 hown hK hP 0 rfl rfl 22 (by decide) (hts (.fieldLink RX3 47 "HoldUnlessModel" "now" "[I") (by decide +kernel)) (fun _ h9 => h9) rfl dX3_ofAll_12 ?_
      refine lv_iload_n hx hb dX3_ofAll_15 rfl (lv_at hl 3 rfl) ?_
      refine lv_bipush (v := 32) hx hb dX3_ofAll_16 (by decide) ?_
      refine lv_idiv hx hb dX3_ofAll_18 (by decide) ?_
      refine va_iald hx hb hK hP 13 12 rfl rfl ((vp_div32 (by omega))) dX3_ofAll_19 ?_
      refine lv_iload_n hx hb dX3_ofAll_20 rfl (lv_at hl 3 rfl) ?_
      refine lv_bipush (v := 32) hx hb dX3_ofAll_21 (by decide) ?_
      refine lv_irem hx hb dX3_ofAll_23 (by decide) ?_
      refine ro_i (D := D) (va_runS (As := [.int (nw (((nI j4) / 32) : Int32).toNatClampNeg), .int ((nI j4) - (nI j4) / 32 * 32)]) (rest := []) ⟨hx, hb, hml, hown, hts⟩ (c_X3_has l D (nw (((nI j4) / 32) : Int32).toNatClampNeg) ((nI j4) - (nI j4) / 32 * 32)  _) (va_cwS 2 hts gX3_ofAll_X3_has rfl rfl rfl (by decide +kernel) ⟨Nat.le_of_ble_eq_true rfl, Nat.le_of_ble_eq_true rfl⟩) ⟨cPre.blind, cPre.mk vP0 hKe vD0 hN⟩ rfl rfl hl.1 rfl (lv_room (Nat.le_of_ble_eq_true rfl)) dX3_ofAll_24 ⟨Nat.zero_le _, Nat.zero_le _⟩) hS hA (fun H locs hkp0 hS => ?_)
      replace hP := hkp0 _ hP
      refine lv_if_eq (tgt := 39) hx hb dX3_ofAll_27 (by decide) (fun c_27_6 => ?_) (fun c_27_6 => ?_)
      · refine lv_iinc (v := nI (j4 + 1)) (lv' := [(3, .int (nI (j4 + 1))), (0, .ref (h 0)), (1, .int i), (2, .int lft)]) hx hb dX3_ofAll_39 hl (k := 3) rfl (inc_nI j4) (by decide) rfl (fun ls hl => ?_)
        refine lv_goto (tgt := 4) hx hb dX3_ofAll_42 (by decide) ?_
        exact ih4 (j4 + 1) (by omega) lft (itE_succ he4 (by (unfold f_X3_ofAll_4; (try dsimp only); (try rw [if_pos c_27_6]); first | done | rfl)))   _ _ hP hS _ (lv_sub hl [1, 2, 3, 0] rfl)
      · refine lv_iload_n hx hb dX3_ofAll_30 rfl (lv_at hl 2 rfl) ?_
        refine lv_if_ne (tgt := 36) hx hb dX3_ofAll_31 (by decide) (fun c_31_7 => ?_) (fun c_31_7 => ?_)
        · refine lv_iinc (v := (lft + (-1))) (lv' := [(2, .int (lft + (-1))), (0, .ref (h 0)), (1, .int i), (3, .int (nI j4))]) hx hb dX3_ofAll_36 hl (k := 2) rfl rfl (by decide) rfl (fun ls hl => ?_)
          refine lv_iinc (v := nI (j4 + 1)) (lv' := [(3, .int (nI (j4 + 1))), (2, .int (lft + (-1))), (0, .ref (h 0)), (1, .int i)]) hx hb dX3_ofAll_39 hl (k := 3) rfl (inc_nI j4) (by decide) rfl (fun ls hl => ?_)
          refine lv_goto (tgt := 4) hx hb dX3_ofAll_42 (by decide) ?_
          exact ih4 (j4 + 1) (by omega) (lft + (-1)) (itE_succ he4 (by (unfold f_X3_ofAll_4; (try dsimp only); (try rw [if_neg c_27_6]); (try rw [if_neg c_31_7]); first | done | rfl)))   _ _ hP hS _ (lv_sub hl [2, 3, 1, 0] rfl)
        · refine lv_iload_n hx hb dX3_ofAll_34 rfl (lv_at hl 3 rfl) ?_
          have hs_8 : itE (f_X3_ofAll_4 nw) i (j4 + 1) = (.inl (nI j4)) := itE_succ he4 (by (unfold f_X3_ofAll_4; (try dsimp only); (try rw [if_neg c_27_6]); (try rw [if_pos c_31_7]); first | done | rfl))
          have hn_9 := itE_stop hs_8 256 (by omega)
          exact ro_iret hx hb hr hS hlocks (show s_X3_ofAll nw i = nI j4 from by (unfold s_X3_ofAll; (try dsimp only); (try rw [hn_9]); (try dsimp only [onE]); first | done | rfl)).symm dX3_ofAll_35
  exact lp4_1 256 0 (by omega) i (itE_zero _ _)   _ _ hP hS _ (lv_sub hl [2, 3, 1, 0] rfl)

def s_X3_sets (n : Nat) (hd : Nat → Int32) (fi : Nat → Int32) (un : Nat → Int32) (may : Int32) (on : Int32) (asd : Int32) (nw : Nat → Int32) : Int32 := (match s_X3_findAll__nw n hd fi un may nw on asd with | (rv_4, nwv_1) => rv_4)
set_option maxHeartbeats 4000000 in
set_option maxRecDepth 100000 in
theorem c_X3_sets (l : Launch) (D : va_G) (h : Nat → Nat) (cA : Nat → ClassId) (n : Nat) (hd : Nat → Int32) (fi : Nat → Int32) (un : Nat → Int32) (on : Int32) (may : Int32) (asd : Int32) (tx : Nat → Int32) (td : Int32) (kp : Nat → Int32) (ko : Nat → Int32) (ka : Nat → Int32) (tr : Int64) (pat : Int32) (pfr : Int32) (rhd : Nat → Int32) (rif : Nat → Int32) (rul : Nat → Int32) (prr : Int32) (prm : Int32) (rd : Nat → Int32) (bb : Nat → Int32) (nw : Nat → Int32) (ot : Nat → Int32) (ev : Nat → Int32) (od : Nat → Int32) (hn : n ≤ 10) (hhd : ∀ k : Nat, k < n → ¬ hd k = 8 → vp_in (hd k) 8) (sz : Nat) : Met l yX3_sets wsX3_sets ({ frames := 4, cells := 0, slots := 0, locals := 97 }) (va_Pc [.ref (h 0)] (cPre D (tM h cA) (wM h cA (nI n) hd fi un on may asd tx td kp ko ka tr pat pfr rhd rif rul prr prm rd bb nw ot ev od) sz)) (va_Qi (fun (r : Int32) (u : (Nat → Int32) × (Nat → Int32) × (Nat → Int32)) => r = s_X3_sets n hd fi un may on asd nw) (rwB D (fun u : (Nat → Int32) × (Nat → Int32) × (Nat → Int32) => (wM h cA (nI n) hd fi un on may asd tx td kp ko ka tr pat pfr rhd rif rul prr prm u.1 u.2.1 u.2.2 ot ev od)) (va_A (wM h cA (nI n) hd fi un on may asd tx td kp ko ka tr pat pfr rhd rif rul prr prm rd bb nw ot ev od) sz)) (va_A (wM h cA (nI n) hd fi un on may asd tx td kp ko ka tr pat pfr rhd rif rul prr prm rd bb nw ot ev od) sz)) 0 0 (va_A (wM h cA (nI n) hd fi un on may asd tx td kp ko ka tr pat pfr rhd rif rul prr prm rd bb nw ot ev od) sz) := by
  refine Met.ofW (cc := cX3_sets) (maxL := 1) (ret := (some .int)) (by decide) rfl ?_
  intro p e s m args below meth c s₁ B hml hv
  obtain ⟨rfl, hsz, hP, hK, hD, hN⟩ := hv
  have hx := B.exec
  have hb := B.bytes
  have hr := B.returns
  have hts := atoms_spec (ws := wsX3_sets) B.pre
  have hown : s.vm.findClass RX3 = some m.cls := findClass_of_methodNamed B.named
  have hlocks := B.notSynchronized
  have hinX3 : ∀ w ∈ wsX30, w ∈ wsX3_sets := fun w h => List.mem_cons_of_mem _ (List.mem_append_right _ h)
  subst hsz
  replace hD := hD.self (sz := s.heap.size)
  generalize hAe : va_A (wM h cA (nI n) hd fi un on may asd tx td kp ko ka tr pat pfr rhd rif rul prr prm rd bb nw ot ev od) s.heap.size = A at hD ⊢
  have hA : ∀ q : Nat, s.heap.size ≤ q → A q := fun q h => by rw [← hAe]; exact Or.inr h
  have hS : va_S A s.heap s.heap [] := va_S.rf
  have hl := lv_entry ([.ref (h 0)]) (n := 1) (Nat.le_of_ble_eq_true rfl)
  rw [lg_entry_eq]
  generalize (lg_sl ([.ref (h 0)]) ++ List.replicate (1 - (lg_sl ([.ref (h 0)])).length) Slot.unset).toArray = ls at hl ⊢
  replace hl : lv_has ls 1 [(0, .ref (h 0))] := hl
  have hKe := hK.sub (tys' := []) [] rfl
  refine lv_aload_n hx hb dX3_sets_0 rfl (lv_at hl 0 rfl) ?_
  refine lv_aload_n hx hb dX3_sets_1 rfl (lv_at hl 0 rfl) ?_
  refine va_get (D := D) (ci := 3) (v := .ref (h 13)) (C := RX3) (T := TX3) (N := 26) hx hb hts hinX3 hown hK hP 0 rfl rfl 22 (by decide) (hts (.fieldLink RX3 47 "HoldUnlessModel" "now" "[I") (by decide +kernel)) (fun _ h9 => h9) rfl dX3_sets_2 ?_
  refine lv_aload_n hx hb dX3_sets_5 rfl (lv_at hl 0 rfl) ?_
  refine va_get (D := D) (ci := 3) (v := .int on) (C := RX3) (T := TX3) (N := 26) hx hb hts hinX3 hown hK hP 0 rfl rfl 4 (by decide) (hts (.fieldLink RX3 114 "HoldUnlessModel" "on" "I") (by decide +kernel)) (fun _ h9 => h9) rfl dX3_sets_6 ?_
  refine lv_aload_n hx hb dX3_sets_9 rfl (lv_at hl 0 rfl) ?_
  refine va_get (D := D) (ci := 3) (v := .int asd) (C := RX3) (T := TX3) (N := 26) hx hb hts hinX3 hown hK hP 0 rfl rfl 6 (by decide) (hts (.fieldLink RX3 120 "HoldUnlessModel" "assumed" "I") (by decide +kernel)) (fun _ h9 => h9) rfl dX3_sets_10 ?_
  have hFc := va_free (wc := (wM h cA (nI n) hd fi un on may asd tx td kp ko ka tr pat pfr rhd rif rul prr prm rd bb nw ot ev od)) hD hS hA [0, 1, 2, 3, 4, 5, 6, 7, 8, 9, 10, 11, 12, 13, 14, 15, 16] rfl
  refine rw_i (D := D) (wc := (wM h cA (nI n) hd fi un on may asd tx td kp ko ka tr pat pfr rhd rif rul prr prm rd bb nw ot ev od)) (va_runV (As := [.ref (h 13), .int on, .int asd]) (rest := []) ⟨hx, hb, hml, hown, hts⟩ (c_X3_findAll__nw l D h cA n hd fi un on may asd tx td kp ko ka tr pat pfr rhd rif rul prr prm rd bb nw ot ev od on asd (by first | assumption | omega) hhd _) (cwV 3 hts gX3_sets_X3_findAll rfl rfl rfl (by decide +kernel) ⟨Nat.le_of_ble_eq_true rfl, Nat.le_of_ble_eq_true rfl⟩) ⟨cPre.blind, va_recv hK hP (ci := 3) (q0 := 0) rfl rfl, cPre.mk hP hK hD hN⟩ rfl rfl hl.1 rfl (lv_room (Nat.le_of_ble_eq_true rfl)) dX3_sets_13 ⟨Nat.zero_le _, Nat.zero_le _⟩) hS hFc (fun rv_4 u H1 locs hw_5 hP1 hD1 hk1 hS => ?_)
  obtain ⟨nwv_1, rdv_2, bbv_3⟩ := u
  try dsimp only at hw_5
  have hP : va_P D vwCl (wM h cA (nI n) hd fi un on may asd tx td kp ko ka tr pat pfr rhd rif rul prr prm rdv_2 bbv_3 nwv_1 ot ev od) H1 := hP1
  have hD : va_D A (wM h cA (nI n) hd fi un on may asd tx td kp ko ka tr pat pfr rhd rif rul prr prm rdv_2 bbv_3 nwv_1 ot ev od) := hD1.weaken (fun k q hk h => hFc _ h)
  clear hP1 hD1 hFc hk1
  generalize H1 = H at hP hS ⊢
  exact rw_iret hx hb hr hS hlocks (rdv_2, bbv_3, nwv_1) (show s_X3_sets n hd fi un may on asd nw = rv_4 from by (unfold s_X3_sets; (try dsimp only); (try rw [← hw_5]); (try dsimp only); first | done | rfl)).symm hP hD dX3_sets_16

def s_X3_set (n : Nat) (hd : Nat → Int32) (fi : Nat → Int32) (un : Nat → Int32) (may : Int32) (on : Int32) (asd : Int32) (nw : Nat → Int32) (i : Int32) : Int32 := (if 0 ≤ i then (match s_X3_findAll__nw n hd fi un may nw on asd with | (rv_5, nwv_2) => (s_X3_ofAll nwv_2 i)) else (-1))
set_option maxHeartbeats 4000000 in
set_option maxRecDepth 100000 in
theorem c_X3_set (l : Launch) (D : va_G) (h : Nat → Nat) (cA : Nat → ClassId) (n : Nat) (hd : Nat → Int32) (fi : Nat → Int32) (un : Nat → Int32) (on : Int32) (may : Int32) (asd : Int32) (tx : Nat → Int32) (td : Int32) (kp : Nat → Int32) (ko : Nat → Int32) (ka : Nat → Int32) (tr : Int64) (pat : Int32) (pfr : Int32) (rhd : Nat → Int32) (rif : Nat → Int32) (rul : Nat → Int32) (prr : Int32) (prm : Int32) (rd : Nat → Int32) (bb : Nat → Int32) (nw : Nat → Int32) (ot : Nat → Int32) (ev : Nat → Int32) (od : Nat → Int32) (i : Int32) (hn : n ≤ 10) (hhd : ∀ k : Nat, k < n → ¬ hd k = 8 → vp_in (hd k) 8) (sz : Nat) : Met l yX3_set wsX3_set ({ frames := 4, cells := 0, slots := 0, locals := 97 }) (va_Pc [.ref (h 0), .int i] (cPre D (tM h cA) (wM h cA (nI n) hd fi un on may asd tx td kp ko ka tr pat pfr rhd rif rul prr prm rd bb nw ot ev od) sz)) (va_Qi (fun (r : Int32) (u : (Nat → Int32) × (Nat → Int32) × (Nat → Int32)) => r = s_X3_set n hd fi un may on asd nw i) (rwB D (fun u : (Nat → Int32) × (Nat → Int32) × (Nat → Int32) => (wM h cA (nI n) hd fi un on may asd tx td kp ko ka tr pat pfr rhd rif rul prr prm u.1 u.2.1 u.2.2 ot ev od)) (va_A (wM h cA (nI n) hd fi un on may asd tx td kp ko ka tr pat pfr rhd rif rul prr prm rd bb nw ot ev od) sz)) (va_A (wM h cA (nI n) hd fi un on may asd tx td kp ko ka tr pat pfr rhd rif rul prr prm rd bb nw ot ev od) sz)) 0 0 (va_A (wM h cA (nI n) hd fi un on may asd tx td kp ko ka tr pat pfr rhd rif rul prr prm rd bb nw ot ev od) sz) := by
  refine Met.ofW (cc := cX3_set) (maxL := 2) (ret := (some .int)) (by decide) rfl ?_
  intro p e s m args below meth c s₁ B hml hv
  obtain ⟨rfl, hsz, hP, hK, hD, hN⟩ := hv
  have hx := B.exec
  have hb := B.bytes
  have hr := B.returns
  have hts := atoms_spec (ws := wsX3_set) B.pre
  have hown : s.vm.findClass RX3 = some m.cls := findClass_of_methodNamed B.named
  have hlocks := B.notSynchronized
  have hinX3 : ∀ w ∈ wsX30, w ∈ wsX3_set := fun w h => List.mem_cons_of_mem _ (List.mem_append_right _ h)
  subst hsz
  replace hD := hD.self (sz := s.heap.size)
  generalize hAe : va_A (wM h cA (nI n) hd fi un on may asd tx td kp ko ka tr pat pfr rhd rif rul prr prm rd bb nw ot ev od) s.heap.size = A at hD ⊢
  have hA : ∀ q : Nat, s.heap.size ≤ q → A q := fun q h => by rw [← hAe]; exact Or.inr h
  have hS : va_S A s.heap s.heap [] := va_S.rf
  have hl := lv_entry ([.ref (h 0), .int i]) (n := 2) (Nat.le_of_ble_eq_true rfl)
  rw [lg_entry_eq]
  generalize (lg_sl ([.ref (h 0), .int i]) ++ List.replicate (2 - (lg_sl ([.ref (h 0), .int i])).length) Slot.unset).toArray = ls at hl ⊢
  replace hl : lv_has ls 2 [(0, .ref (h 0)), (1, .int i)] := hl
  have hKe := hK.sub (tys' := []) [] rfl
  refine lv_iload_n hx hb dX3_set_0 rfl (lv_at hl 1 rfl) ?_
  refine lv_if_ge (tgt := 6) hx hb dX3_set_1 (by decide) (fun c_1_1 => ?_) (fun c_1_1 => ?_)
  · refine lv_aload_n hx hb dX3_set_6 rfl (lv_at hl 0 rfl) ?_
    refine lv_aload_n hx hb dX3_set_7 rfl (lv_at hl 0 rfl) ?_
    refine va_get (D := D) (ci := 3) (v := .ref (h 13)) (C := RX3) (T := TX3) (N := 26) hx hb hts hinX3 hown hK hP 0 rfl rfl 22 (by decide) (hts (.fieldLink RX3 47 "HoldUnlessModel" "now" "[I") (by decide +kernel)) (fun _ h9 => h9) rfl dX3_set_8 ?_
    refine lv_aload_n hx hb dX3_set_11 rfl (lv_at hl 0 rfl) ?_
    refine va_get (D := D) (ci := 3) (v := .int on) (C := RX3) (T := TX3) (N := 26) hx hb hts hinX3 hown hK hP 0 rfl rfl 4 (by decide) (hts (.fieldLink RX3 114 "HoldUnlessModel" "on" "I") (by decide +kernel)) (fun _ h9 => h9) rfl dX3_set_12 ?_
    refine lv_aload_n hx hb dX3_set_15 rfl (lv_at hl 0 rfl) ?_
    refine va_get (D := D) (ci := 3) (v := .int asd) (C := RX3) (T := TX3) (N := 26) hx hb hts hinX3 hown hK hP 0 rfl rfl 6 (by decide) (hts (.fieldLink RX3 120 "HoldUnlessModel" "assumed" "I") (by decide +kernel)) (fun _ h9 => h9) rfl dX3_set_16 ?_
    have hFc := va_free (wc := (wM h cA (nI n) hd fi un on may asd tx td kp ko ka tr pat pfr rhd rif rul prr prm rd bb nw ot ev od)) hD hS hA [0, 1, 2, 3, 4, 5, 6, 7, 8, 9, 10, 11, 12, 13, 14, 15, 16] rfl
    refine rw_i (D := D) (wc := (wM h cA (nI n) hd fi un on may asd tx td kp ko ka tr pat pfr rhd rif rul prr prm rd bb nw ot ev od)) (va_runV (As := [.ref (h 13), .int on, .int asd]) (rest := []) ⟨hx, hb, hml, hown, hts⟩ (c_X3_findAll__nw l D h cA n hd fi un on may asd tx td kp ko ka tr pat pfr rhd rif rul prr prm rd bb nw ot ev od on asd (by first | assumption | omega) hhd _) (cwV 3 hts gX3_set_X3_findAll rfl rfl rfl (by decide +kernel) ⟨Nat.le_of_ble_eq_true rfl, Nat.le_of_ble_eq_true rfl⟩) ⟨cPre.blind, va_recv hK hP (ci := 3) (q0 := 0) rfl rfl, cPre.mk hP hK hD hN⟩ rfl rfl hl.1 rfl (lv_room (Nat.le_of_ble_eq_true rfl)) dX3_set_19 ⟨Nat.zero_le _, Nat.zero_le _⟩) hS hFc (fun rv_5 u H1 locs hw_6 hP1 hD1 hk1 hS => ?_)
    obtain ⟨nwv_2, rdv_3, bbv_4⟩ := u
    try dsimp only at hw_6
    have hP : va_P D vwCl (wM h cA (nI n) hd fi un on may asd tx td kp ko ka tr pat pfr rhd rif rul prr prm rdv_3 bbv_4 nwv_2 ot ev od) H1 := hP1
    have hD : va_D A (wM h cA (nI n) hd fi un on may asd tx td kp ko ka tr pat pfr rhd rif rul prr prm rdv_3 bbv_4 nwv_2 ot ev od) := hD1.weaken (fun k q hk h => hFc _ h)
    clear hP1 hD1 hFc hk1
    generalize H1 = H at hP hS ⊢
    refine lv_pop hx hb dX3_set_22 rfl ?_
    refine lv_aload_n hx hb dX3_set_23 rfl (lv_at hl 0 rfl) ?_
    refine lv_iload_n hx hb dX3_set_24 rfl (lv_at hl 1 rfl) ?_
    refine ro_i (D := D) (va_runV (As := [.int i]) (rest := []) ⟨hx, hb, hml, hown, hts⟩ (c_X3_ofAll l D h cA n hd fi un on may asd tx td kp ko ka tr pat pfr rhd rif rul prr prm rdv_3 bbv_4 nwv_2 ot ev od i (by first | assumption | omega) _) (cwV 1 hts gX3_set_X3_ofAll rfl rfl rfl (by decide +kernel) ⟨Nat.le_of_ble_eq_true rfl, Nat.le_of_ble_eq_true rfl⟩) ⟨cPre.blind, va_recv hK hP (ci := 3) (q0 := 0) rfl rfl, cPre.mk hP hK hD hN⟩ rfl rfl hl.1 rfl (lv_room (Nat.le_of_ble_eq_true rfl)) dX3_set_25 ⟨Nat.zero_le _, Nat.zero_le _⟩) hS hA (fun H locs hkp0 hS => ?_)
    replace hP := hkp0 _ hP
    exact rw_iret hx hb hr hS hlocks (rdv_3, bbv_4, nwv_2) (show s_X3_set n hd fi un may on asd nw i = (s_X3_ofAll nwv_2 i) from by (unfold s_X3_set; (try dsimp only); (try rw [if_pos c_1_1]); (try rw [← hw_6]); (try dsimp only); first | done | rfl)).symm hP hD dX3_set_28
  · refine lv_iconst (v := (-1)) hx hb dX3_set_4 (by decide) ?_
    exact rw_iret hx hb hr hS hlocks (rd, bb, nw) (show s_X3_set n hd fi un may on asd nw i = (-1) from by (unfold s_X3_set; (try dsimp only); (try rw [if_neg c_1_1]); first | done | rfl)).symm hP hD dX3_set_5

def s_X3_stands (n : Nat) (hd : Nat → Int32) (fi : Nat → Int32) (un : Nat → Int32) (may : Int32) (on : Int32) (asd : Int32) (set : Int32) : Int32 := (if (s_X3_in ((set : Int32).toInt64) 0 255) = 0 then (-1) else (if (s_X3_doesStand n hd fi un may set on asd) = 0 then 0 else 1))
set_option maxHeartbeats 4000000 in
set_option maxRecDepth 100000 in
theorem c_X3_stands (l : Launch) (D : va_G) (h : Nat → Nat) (cA : Nat → ClassId) (n : Nat) (hd : Nat → Int32) (fi : Nat → Int32) (un : Nat → Int32) (on : Int32) (may : Int32) (asd : Int32) (tx : Nat → Int32) (td : Int32) (kp : Nat → Int32) (ko : Nat → Int32) (ka : Nat → Int32) (tr : Int64) (pat : Int32) (pfr : Int32) (rhd : Nat → Int32) (rif : Nat → Int32) (rul : Nat → Int32) (prr : Int32) (prm : Int32) (rd : Nat → Int32) (bb : Nat → Int32) (nw : Nat → Int32) (ot : Nat → Int32) (ev : Nat → Int32) (od : Nat → Int32) (set : Int32) (hn : n ≤ 10) (hhd : ∀ k : Nat, k < n → ¬ hd k = 8 → vp_in (hd k) 8) (sz : Nat) : Met l yX3_stands wsX3_stands ({ frames := 3, cells := 0, slots := 0, locals := 72 }) (va_Pc [.ref (h 0), .int set] (cPre D (tM h cA) (wM h cA (nI n) hd fi un on may asd tx td kp ko ka tr pat pfr rhd rif rul prr prm rd bb nw ot ev od) sz)) (va_Qi (fun (r : Int32) (u : (Nat → Int32) × (Nat → Int32)) => r = s_X3_stands n hd fi un may on asd set) (rwB D (fun u : (Nat → Int32) × (Nat → Int32) => (wM h cA (nI n) hd fi un on may asd tx td kp ko ka tr pat pfr rhd rif rul prr prm u.1 u.2 nw ot ev od)) (va_A (wM h cA (nI n) hd fi un on may asd tx td kp ko ka tr pat pfr rhd rif rul prr prm rd bb nw ot ev od) sz)) (va_A (wM h cA (nI n) hd fi un on may asd tx td kp ko ka tr pat pfr rhd rif rul prr prm rd bb nw ot ev od) sz)) 0 0 (va_A (wM h cA (nI n) hd fi un on may asd tx td kp ko ka tr pat pfr rhd rif rul prr prm rd bb nw ot ev od) sz) := by
  refine Met.ofW (cc := cX3_stands) (maxL := 2) (ret := (some .int)) (by decide) rfl ?_
  intro p e s m args below meth c s₁ B hml hv
  obtain ⟨rfl, hsz, hP, hK, hD, hN⟩ := hv
  have hx := B.exec
  have hb := B.bytes
  have hr := B.returns
  have hts := atoms_spec (ws := wsX3_stands) B.pre
  have hown : s.vm.findClass RX3 = some m.cls := findClass_of_methodNamed B.named
  have hlocks := B.notSynchronized
  have hinX3 : ∀ w ∈ wsX30, w ∈ wsX3_stands := fun w h => List.mem_cons_of_mem _ (List.mem_append_right _ h)
  subst hsz
  replace hD := hD.self (sz := s.heap.size)
  generalize hAe : va_A (wM h cA (nI n) hd fi un on may asd tx td kp ko ka tr pat pfr rhd rif rul prr prm rd bb nw ot ev od) s.heap.size = A at hD ⊢
  have hA : ∀ q : Nat, s.heap.size ≤ q → A q := fun q h => by rw [← hAe]; exact Or.inr h
  have hS : va_S A s.heap s.heap [] := va_S.rf
  have hl := lv_entry ([.ref (h 0), .int set]) (n := 2) (Nat.le_of_ble_eq_true rfl)
  rw [lg_entry_eq]
  generalize (lg_sl ([.ref (h 0), .int set]) ++ List.replicate (2 - (lg_sl ([.ref (h 0), .int set])).length) Slot.unset).toArray = ls at hl ⊢
  replace hl : lv_has ls 2 [(0, .ref (h 0)), (1, .int set)] := hl
  have hKe := hK.sub (tys' := []) [] rfl
  refine lv_iload_n hx hb dX3_stands_0 rfl (lv_at hl 1 rfl) ?_
  refine lv_i2l hx hb dX3_stands_1 rfl ?_
  refine lv_lconst (v := 0) hx hb dX3_stands_2 (by decide) ?_
  refine lv_ldc2 (v := 255) hx hb hown (hts (.constantLong RX3 72 (255)) (by decide +kernel)) dX3_stands_3 ?_
  refine ro_i (D := D) (va_runS (As := [.long ((set : Int32).toInt64), .long 0, .long 255]) (rest := []) ⟨hx, hb, hml, hown, hts⟩ (c_X3_in l D ((set : Int32).toInt64) 0 255  _) (va_cwS 3 hts gX3_stands_X3_in rfl rfl rfl (by decide +kernel) ⟨Nat.le_of_ble_eq_true rfl, Nat.le_of_ble_eq_true rfl⟩) ⟨cPre.blind, cPre.mk vP0 hKe vD0 hN⟩ rfl rfl hl.1 rfl (lv_room (Nat.le_of_ble_eq_true rfl)) dX3_stands_6 ⟨Nat.zero_le _, Nat.zero_le _⟩) hS hA (fun H locs hkp0 hS => ?_)
  replace hP := hkp0 _ hP
  refine lv_if_ne (tgt := 14) hx hb dX3_stands_9 (by decide) (fun c_9_1 => ?_) (fun c_9_1 => ?_)
  · refine lv_aload_n hx hb dX3_stands_14 rfl (lv_at hl 0 rfl) ?_
    refine lv_iload_n hx hb dX3_stands_15 rfl (lv_at hl 1 rfl) ?_
    refine lv_aload_n hx hb dX3_stands_16 rfl (lv_at hl 0 rfl) ?_
    refine va_get (D := D) (ci := 3) (v := .int on) (C := RX3) (T := TX3) (N := 26) hx hb hts hinX3 hown hK hP 0 rfl rfl 4 (by decide) (hts (.fieldLink RX3 114 "HoldUnlessModel" "on" "I") (by decide +kernel)) (fun _ h9 => h9) rfl dX3_stands_17 ?_
    refine lv_aload_n hx hb dX3_stands_20 rfl (lv_at hl 0 rfl) ?_
    refine va_get (D := D) (ci := 3) (v := .int asd) (C := RX3) (T := TX3) (N := 26) hx hb hts hinX3 hown hK hP 0 rfl rfl 6 (by decide) (hts (.fieldLink RX3 120 "HoldUnlessModel" "assumed" "I") (by decide +kernel)) (fun _ h9 => h9) rfl dX3_stands_21 ?_
    have hFc := va_free (wc := (wM h cA (nI n) hd fi un on may asd tx td kp ko ka tr pat pfr rhd rif rul prr prm rd bb nw ot ev od)) hD hS hA [0, 1, 2, 3, 4, 5, 6, 7, 8, 9, 10, 11, 12, 13, 14, 15, 16] rfl
    refine rw_i (D := D) (wc := (wM h cA (nI n) hd fi un on may asd tx td kp ko ka tr pat pfr rhd rif rul prr prm rd bb nw ot ev od)) (va_runV (As := [.int set, .int on, .int asd]) (rest := []) ⟨hx, hb, hml, hown, hts⟩ (c_X3_doesStand l D h cA n hd fi un on may asd tx td kp ko ka tr pat pfr rhd rif rul prr prm rd bb nw ot ev od set on asd (by first | assumption | omega) hhd _) (cwV 3 hts gX3_stands_X3_doesStand rfl rfl rfl (by decide +kernel) ⟨Nat.le_of_ble_eq_true rfl, Nat.le_of_ble_eq_true rfl⟩) ⟨cPre.blind, va_recv hK hP (ci := 3) (q0 := 0) rfl rfl, cPre.mk hP hK hD hN⟩ rfl rfl hl.1 rfl (lv_room (Nat.le_of_ble_eq_true rfl)) dX3_stands_24 ⟨Nat.zero_le _, Nat.zero_le _⟩) hS hFc (fun rv_4 u H1 locs hw_5 hP1 hD1 hk1 hS => ?_)
    obtain ⟨rdv_2, bbv_3⟩ := u
    try dsimp only at hw_5
    have hP : va_P D vwCl (wM h cA (nI n) hd fi un on may asd tx td kp ko ka tr pat pfr rhd rif rul prr prm rdv_2 bbv_3 nw ot ev od) H1 := hP1
    have hD : va_D A (wM h cA (nI n) hd fi un on may asd tx td kp ko ka tr pat pfr rhd rif rul prr prm rdv_2 bbv_3 nw ot ev od) := hD1.weaken (fun k q hk h => hFc _ h)
    clear hP1 hD1 hFc hk1
    generalize H1 = H at hP hS ⊢
    subst hw_5
    refine lv_if_eq (tgt := 34) hx hb dX3_stands_27 (by decide) (fun c_27_6 => ?_) (fun c_27_6 => ?_)
    · refine lv_iconst (v := 0) hx hb dX3_stands_34 (by decide) ?_
      exact rw_iret hx hb hr hS hlocks (rdv_2, bbv_3) (show s_X3_stands n hd fi un may on asd set = 0 from by (unfold s_X3_stands; (try dsimp only); (try rw [if_neg c_9_1]); (try rw [if_pos c_27_6]); first | done | rfl)).symm hP hD dX3_stands_35
    · refine lv_iconst (v := 1) hx hb dX3_stands_30 (by decide) ?_
      refine lv_goto (tgt := 35) hx hb dX3_stands_31 (by decide) ?_
      exact rw_iret hx hb hr hS hlocks (rdv_2, bbv_3) (show s_X3_stands n hd fi un may on asd set = 1 from by (unfold s_X3_stands; (try dsimp only); (try rw [if_neg c_9_1]); (try rw [if_neg c_27_6]); first | done | rfl)).symm hP hD dX3_stands_35
  · refine lv_iconst (v := (-1)) hx hb dX3_stands_12 (by decide) ?_
    exact rw_iret hx hb hr hS hlocks (rd, bb) (show s_X3_stands n hd fi un may on asd set = (-1) from by (unfold s_X3_stands; (try dsimp only); (try rw [if_pos c_9_1]); first | done | rfl)).symm hP hD dX3_stands_13

def f_X3_holds_21 (n : Nat) (hd : Nat → Int32) (fi : Nat → Int32) (un : Nat → Int32) (may : Int32) (on : Int32) (asd : Int32) (j21 : Nat) (st : Int32 × Int32) : Int32 × Int32 := match st with | (ins, ina) => (if (s_X3_doesStand n hd fi un may (nI j21) on asd) = 0 then ((ins ||| 0), (ina &&& 255)) else ((ins ||| (nI j21)), (ina &&& (nI j21))))
def s_X3_holds (n : Nat) (hd : Nat → Int32) (fi : Nat → Int32) (un : Nat → Int32) (may : Int32) (on : Int32) (asd : Int32) (what : Int32) : Int32 := (if (s_X3_in ((what : Int32).toInt64) 0 1) = 0 then (-1) else (match itr (f_X3_holds_21 n hd fi un may on asd) (0, 255) 256 with | (ins, ina) => (if what = 0 then ins else ina)))
set_option maxHeartbeats 4000000 in
set_option maxRecDepth 100000 in
theorem c_X3_holds (l : Launch) (D : va_G) (h : Nat → Nat) (cA : Nat → ClassId) (n : Nat) (hd : Nat → Int32) (fi : Nat → Int32) (un : Nat → Int32) (on : Int32) (may : Int32) (asd : Int32) (tx : Nat → Int32) (td : Int32) (kp : Nat → Int32) (ko : Nat → Int32) (ka : Nat → Int32) (tr : Int64) (pat : Int32) (pfr : Int32) (rhd : Nat → Int32) (rif : Nat → Int32) (rul : Nat → Int32) (prr : Int32) (prm : Int32) (rd : Nat → Int32) (bb : Nat → Int32) (nw : Nat → Int32) (ot : Nat → Int32) (ev : Nat → Int32) (od : Nat → Int32) (what : Int32) (hn : n ≤ 10) (hhd : ∀ k : Nat, k < n → ¬ hd k = 8 → vp_in (hd k) 8) (sz : Nat) : Met l yX3_holds wsX3_holds ({ frames := 3, cells := 0, slots := 0, locals := 72 }) (va_Pc [.ref (h 0), .int what] (cPre D (tM h cA) (wM h cA (nI n) hd fi un on may asd tx td kp ko ka tr pat pfr rhd rif rul prr prm rd bb nw ot ev od) sz)) (va_Qi (fun (r : Int32) (u : (Nat → Int32) × (Nat → Int32)) => r = s_X3_holds n hd fi un may on asd what) (rwB D (fun u : (Nat → Int32) × (Nat → Int32) => (wM h cA (nI n) hd fi un on may asd tx td kp ko ka tr pat pfr rhd rif rul prr prm u.1 u.2 nw ot ev od)) (va_A (wM h cA (nI n) hd fi un on may asd tx td kp ko ka tr pat pfr rhd rif rul prr prm rd bb nw ot ev od) sz)) (va_A (wM h cA (nI n) hd fi un on may asd tx td kp ko ka tr pat pfr rhd rif rul prr prm rd bb nw ot ev od) sz)) 0 0 (va_A (wM h cA (nI n) hd fi un on may asd tx td kp ko ka tr pat pfr rhd rif rul prr prm rd bb nw ot ev od) sz) := by
  refine Met.ofW (cc := cX3_holds) (maxL := 6) (ret := (some .int)) (by decide) rfl ?_
  intro p e s m args below meth c s₁ B hml hv
  obtain ⟨rfl, hsz, hP, hK, hD, hN⟩ := hv
  have hx := B.exec
  have hb := B.bytes
  have hr := B.returns
  have hts := atoms_spec (ws := wsX3_holds) B.pre
  have hown : s.vm.findClass RX3 = some m.cls := findClass_of_methodNamed B.named
  have hlocks := B.notSynchronized
  have hinX3 : ∀ w ∈ wsX30, w ∈ wsX3_holds := fun w h => List.mem_cons_of_mem _ (List.mem_append_right _ h)
  subst hsz
  replace hD := hD.self (sz := s.heap.size)
  generalize hAe : va_A (wM h cA (nI n) hd fi un on may asd tx td kp ko ka tr pat pfr rhd rif rul prr prm rd bb nw ot ev od) s.heap.size = A at hD ⊢
  have hA : ∀ q : Nat, s.heap.size ≤ q → A q := fun q h => by rw [← hAe]; exact Or.inr h
  have hS : va_S A s.heap s.heap [] := va_S.rf
  have hl := lv_entry ([.ref (h 0), .int what]) (n := 6) (Nat.le_of_ble_eq_true rfl)
  rw [lg_entry_eq]
  generalize (lg_sl ([.ref (h 0), .int what]) ++ List.replicate (6 - (lg_sl ([.ref (h 0), .int what])).length) Slot.unset).toArray = ls at hl ⊢
  replace hl : lv_has ls 6 [(0, .ref (h 0)), (1, .int what)] := hl
  have hKe := hK.sub (tys' := []) [] rfl
  refine lv_iload_n hx hb dX3_holds_0 rfl (lv_at hl 1 rfl) ?_
  refine lv_i2l hx hb dX3_holds_1 rfl ?_
  refine lv_lconst (v := 0) hx hb dX3_holds_2 (by decide) ?_
  refine lv_lconst (v := 1) hx hb dX3_holds_3 (by decide) ?_
  refine ro_i (D := D) (va_runS (As := [.long ((what : Int32).toInt64), .long 0, .long 1]) (rest := []) ⟨hx, hb, hml, hown, hts⟩ (c_X3_in l D ((what : Int32).toInt64) 0 1  _) (va_cwS 3 hts gX3_holds_X3_in rfl rfl rfl (by decide +kernel) ⟨Nat.le_of_ble_eq_true rfl, Nat.le_of_ble_eq_true rfl⟩) ⟨cPre.blind, cPre.mk vP0 hKe vD0 hN⟩ rfl rfl hl.1 rfl (lv_room (Nat.le_of_ble_eq_true rfl)) dX3_holds_4 ⟨Nat.zero_le _, Nat.zero_le _⟩) hS hA (fun H locs hkp0 hS => ?_)
  replace hP := hkp0 _ hP
  refine lv_if_ne (tgt := 12) hx hb dX3_holds_7 (by decide) (fun c_7_1 => ?_) (fun c_7_1 => ?_)
  · refine lv_iconst (v := 0) hx hb dX3_holds_12 (by decide) ?_
    refine lv_istore_n (lv' := [(2, .int 0), (0, .ref (h 0)), (1, .int what)]) hx hb dX3_holds_13 rfl hl (by decide) rfl (fun ls hl => ?_)
    refine lv_sipush (v := 255) hx hb dX3_holds_14 (by decide) ?_
    refine lv_istore_n (lv' := [(3, .int 255), (2, .int 0), (0, .ref (h 0)), (1, .int what)]) hx hb dX3_holds_17 rfl hl (by decide) rfl (fun ls hl => ?_)
    refine lv_iconst (v := 0) hx hb dX3_holds_18 (by decide) ?_
    refine lv_istore (lv' := [(4, .int 0), (3, .int 255), (2, .int 0), (0, .ref (h 0)), (1, .int what)]) hx hb dX3_holds_19 hl (by decide) rfl (fun ls hl => ?_)
    have lp21_4 : ∀ (z_2 j21 : Nat), j21 + z_2 = 256 → ∀ (ins : Int32) (ina : Int32), (ins, ina) = itr (f_X3_holds_21 n hd fi un may on asd) (0, 255) j21 → ∀ (rd_3 : Nat → Int32) (bb_4 : Nat → Int32) (H : Heap) (locs : List Loc), va_P D vwCl (wM h cA (nI n) hd fi un on may asd tx td kp ko ka tr pat pfr rhd rif rul prr prm rd_3 bb_4 nw ot ev od) H → va_D A (wM h cA (nI n) hd fi un on may asd tx td kp ko ka tr pat pfr rhd rif rul prr prm rd_3 bb_4 nw ot ev od) → va_S A s.heap H locs → ∀ ls : Array Slot, lv_has ls 6 [(0, .ref (h 0)), (1, .int what), (2, .int ins), (3, .int ina), (4, .int (nI j21))] → W p l e (headSpec wsX3_holds ({ frames := 3, cells := 0, slots := 0, locals := 72 })).room s m ([.ref (h 0), .int what] : List Value).toArray below meth c H locs 0 0 (MQ below (va_Qi (fun (r : Int32) (u : (Nat → Int32) × (Nat → Int32)) => r = s_X3_holds n hd fi un may on asd what) (rwB D (fun u : (Nat → Int32) × (Nat → Int32) => (wM h cA (nI n) hd fi un on may asd tx td kp ko ka tr pat pfr rhd rif rul prr prm u.1 u.2 nw ot ev od)) A) A) ([.ref (h 0), .int what] : List Value).toArray s 0 0 A) (F0 m 21 ls []) := by
      intro z_2
      induction z_2 with
      | zero =>
        intro j21 hj21 ins ina he21  rd_3 bb_4 H locs hP hD hS ls hl
        obtain rfl : 256 = j21 := by omega
        refine lv_iload hx hb dX3_holds_21 (lv_at hl 4 rfl) ?_
        refine lv_sipush (v := 255) hx hb dX3_holds_23 (by decide) ?_
        refine lv_icmp_gt (tgt := 81) hx hb dX3_holds_26 (by decide) (fun _ => ?_) (fun hh_6 => absurd (nI_lt (a := 255) (b := 256) (by omega) (by omega)) hh_6)
        refine lv_iload_n hx hb dX3_holds_81 rfl (lv_at hl 1 rfl) ?_
        refine lv_if_ne (tgt := 89) hx hb dX3_holds_82 (by decide) (fun c_82_7 => ?_) (fun c_82_7 => ?_)
        · refine lv_iload_n hx hb dX3_holds_89 rfl (lv_at hl 3 rfl) ?_
          exact rw_iret hx hb hr hS hlocks (rd_3, bb_4) (show s_X3_holds n hd fi un may on asd what = ina from by (unfold s_X3_holds; (try dsimp only); (try rw [if_neg c_7_1]); (try rw [← he21]); (try dsimp only); (try rw [if_neg c_82_7]); first | done | rfl)).symm hP hD dX3_holds_90
        · refine lv_iload_n hx hb dX3_holds_85 rfl (lv_at hl 2 rfl) ?_
          refine lv_goto (tgt := 90) hx hb dX3_holds_86 (by decide) ?_
          exact rw_iret hx hb hr hS hlocks (rd_3, bb_4) (show s_X3_holds n hd fi un may on asd what = ins from by (unfold s_X3_holds; (try dsimp only); (try rw [if_neg c_7_1]); (try rw [← he21]); (try dsimp only); (try rw [if_pos c_82_7]); first | done | rfl)).symm hP hD dX3_holds_90
      | succ z_2 ih21 =>
        intro j21 hj21 ins ina he21  rd_3 bb_4 H locs hP hD hS ls hl
        refine lv_iload hx hb dX3_holds_21 (lv_at hl 4 rfl) ?_
        refine lv_sipush (v := 255) hx hb dX3_holds_23 (by decide) ?_
        refine lv_icmp_gt (tgt := 81) hx hb dX3_holds_26 (by decide) (fun hh_9 => absurd hh_9 (nI_nlt (a := 255) (b := j21) (by omega) (by omega))) (fun _ => ?_)
        refine lv_aload_n hx hb dX3_holds_29 rfl (lv_at hl 0 rfl) ?_
        refine lv_iload hx hb dX3_holds_30 (lv_at hl 4 rfl) ?_
        refine lv_aload_n hx hb dX3_holds_32 rfl (lv_at hl 0 rfl) ?_
        refine va_get (D := D) (ci := 3) (v := .int on) (C := RX3) (T := TX3) (N := 26) hx hb hts hinX3 hown hK hP 0 rfl rfl 4 (by decide) (hts (.fieldLink RX3 114 "HoldUnlessModel" "on" "I") (by decide +kernel)) (fun _ h9 => h9) rfl dX3_holds_33 ?_
        refine lv_aload_n hx hb dX3_holds_36 rfl (lv_at hl 0 rfl) ?_
        refine va_get (D := D) (ci := 3) (v := .int asd) (C := RX3) (T := TX3) (N := 26) hx hb hts hinX3 hown hK hP 0 rfl rfl 6 (by decide) (hts (.fieldLink RX3 120 "HoldUnlessModel" "assumed" "I") (by decide +kernel)) (fun _ h9 => h9) rfl dX3_holds_37 ?_
        have hFc := va_free (wc := (wM h cA (nI n) hd fi un on may asd tx td kp ko ka tr pat pfr rhd rif rul prr prm rd_3 bb_4 nw ot ev od)) hD hS hA [0, 1, 2, 3, 4, 5, 6, 7, 8, 9, 10, 11, 12, 13, 14, 15, 16] rfl
        refine rw_i (D := D) (wc := (wM h cA (nI n) hd fi un on may asd tx td kp ko ka tr pat pfr rhd rif rul prr prm rd_3 bb_4 nw ot ev od)) (va_runV (As := [.int (nI j21), .int on, .int asd]) (rest := []) ⟨hx, hb, hml, hown, hts⟩ (c_X3_doesStand l D h cA n hd fi un on may asd tx td kp ko ka tr pat pfr rhd rif rul prr prm rd_3 bb_4 nw ot ev od (nI j21) on asd (by first | assumption | omega) hhd _) (cwV 3 hts gX3_holds_X3_doesStand rfl rfl rfl (by decide +kernel) ⟨Nat.le_of_ble_eq_true rfl, Nat.le_of_ble_eq_true rfl⟩) ⟨cPre.blind, va_recv hK hP (ci := 3) (q0 := 0) rfl rfl, cPre.mk hP hK hD hN⟩ rfl rfl hl.1 rfl (lv_room (Nat.le_of_ble_eq_true rfl)) dX3_holds_40 ⟨Nat.zero_le _, Nat.zero_le _⟩) hS hFc (fun rv_12 u H1 locs hw_13 hP1 hD1 hk1 hS => ?_)
        obtain ⟨rdv_10, bbv_11⟩ := u
        try dsimp only at hw_13
        have hP : va_P D vwCl (wM h cA (nI n) hd fi un on may asd tx td kp ko ka tr pat pfr rhd rif rul prr prm rdv_10 bbv_11 nw ot ev od) H1 := hP1
        have hD : va_D A (wM h cA (nI n) hd fi un on may asd tx td kp ko ka tr pat pfr rhd rif rul prr prm rdv_10 bbv_11 nw ot ev od) := hD1.weaken (fun k q hk h => hFc _ h)
        clear hP1 hD1 hFc hk1
        generalize H1 = H at hP hS ⊢
        subst hw_13
        refine lv_istore (lv' := [(5, .int (s_X3_doesStand n hd fi un may (nI j21) on asd)), (0, .ref (h 0)), (1, .int what), (2, .int ins), (3, .int ina), (4, .int (nI j21))]) hx hb dX3_holds_43 hl (by decide) rfl (fun ls hl => ?_)
        refine lv_iload_n hx hb dX3_holds_45 rfl (lv_at hl 3 rfl) ?_
        refine lv_iload hx hb dX3_holds_46 (lv_at hl 0 rfl) ?_
        refine lv_if_eq (tgt := 56) hx hb dX3_holds_48 (by decide) (fun c_48_14 => ?_) (fun c_48_14 => ?_)
        · refine lv_iconst (v := 0) hx hb dX3_holds_56 (by decide) ?_
          refine lv_ior hx hb dX3_holds_57 ?_
          refine lv_istore_n (lv' := [(2, .int (ins ||| 0)), (5, .int (s_X3_doesStand n hd fi un may (nI j21) on asd)), (0, .ref (h 0)), (1, .int what), (3, .int ina), (4, .int (nI j21))]) hx hb dX3_holds_58 rfl hl (by decide) rfl (fun ls hl => ?_)
          refine lv_iload_n hx hb dX3_holds_59 rfl (lv_at hl 4 rfl) ?_
          refine lv_iload hx hb dX3_holds_60 (lv_at hl 1 rfl) ?_
          refine lv_if_eq (tgt := 70) hx hb dX3_holds_62 (by decide) (fun _ => ?_) (fun hh_16 => absurd c_48_14 hh_16)
          refine lv_sipush (v := 255) hx hb dX3_holds_70 (by decide) ?_
          refine lv_iand hx hb dX3_holds_73 ?_
          refine lv_istore_n (lv' := [(3, .int (ina &&& 255)), (2, .int (ins ||| 0)), (5, .int (s_X3_doesStand n hd fi un may (nI j21) on asd)), (0, .ref (h 0)), (1, .int what), (4, .int (nI j21))]) hx hb dX3_holds_74 rfl hl (by decide) rfl (fun ls hl => ?_)
          refine lv_iinc (v := nI (j21 + 1)) (lv' := [(4, .int (nI (j21 + 1))), (3, .int (ina &&& 255)), (2, .int (ins ||| 0)), (5, .int (s_X3_doesStand n hd fi un may (nI j21) on asd)), (0, .ref (h 0)), (1, .int what)]) hx hb dX3_holds_75 hl (k := 5) rfl (inc_nI j21) (by decide) rfl (fun ls hl => ?_)
          refine lv_goto (tgt := 21) hx hb dX3_holds_78 (by decide) ?_
          exact ih21 (j21 + 1) (by omega) (ins ||| 0) (ina &&& 255) (itr_step he21 (by (unfold f_X3_holds_21; (try dsimp only); (try rw [if_pos c_48_14]); first | done | rfl)))  rdv_10 bbv_11 _ _ hP hD hS _ (lv_sub hl [4, 5, 2, 1, 0] rfl)
        · refine lv_iload hx hb dX3_holds_51 (lv_at hl 5 rfl) ?_
          refine lv_goto (tgt := 57) hx hb dX3_holds_53 (by decide) ?_
          refine lv_ior hx hb dX3_holds_57 ?_
          refine lv_istore_n (lv' := [(2, .int (ins ||| (nI j21))), (5, .int (s_X3_doesStand n hd fi un may (nI j21) on asd)), (0, .ref (h 0)), (1, .int what), (3, .int ina), (4, .int (nI j21))]) hx hb dX3_holds_58 rfl hl (by decide) rfl (fun ls hl => ?_)
          refine lv_iload_n hx hb dX3_holds_59 rfl (lv_at hl 4 rfl) ?_
          refine lv_iload hx hb dX3_holds_60 (lv_at hl 1 rfl) ?_
          refine lv_if_eq (tgt := 70) hx hb dX3_holds_62 (by decide) (fun hh_18 => absurd hh_18 c_48_14) (fun _ => ?_)
          refine lv_iload hx hb dX3_holds_65 (lv_at hl 5 rfl) ?_
          refine lv_goto (tgt := 73) hx hb dX3_holds_67 (by decide) ?_
          refine lv_iand hx hb dX3_holds_73 ?_
          refine lv_istore_n (lv' := [(3, .int (ina &&& (nI j21))), (2, .int (ins ||| (nI j21))), (5, .int (s_X3_doesStand n hd fi un may (nI j21) on asd)), (0, .ref (h 0)), (1, .int what), (4, .int (nI j21))]) hx hb dX3_holds_74 rfl hl (by decide) rfl (fun ls hl => ?_)
          refine lv_iinc (v := nI (j21 + 1)) (lv' := [(4, .int (nI (j21 + 1))), (3, .int (ina &&& (nI j21))), (2, .int (ins ||| (nI j21))), (5, .int (s_X3_doesStand n hd fi un may (nI j21) on asd)), (0, .ref (h 0)), (1, .int what)]) hx hb dX3_holds_75 hl (k := 5) rfl (inc_nI j21) (by decide) rfl (fun ls hl => ?_)
          refine lv_goto (tgt := 21) hx hb dX3_holds_78 (by decide) ?_
          exact ih21 (j21 + 1) (by omega) (ins ||| (nI j21)) (ina &&& (nI j21)) (itr_step he21 (by (unfold f_X3_holds_21; (try dsimp only); (try rw [if_neg c_48_14]); first | done | rfl)))  rdv_10 bbv_11 _ _ hP hD hS _ (lv_sub hl [4, 5, 2, 1, 0] rfl)
    exact lp21_4 256 0 (by omega) 0 255 (itr_zero _ _).symm  rd bb _ _ hP hD hS _ (lv_sub hl [3, 4, 2, 1, 0] rfl)
  · refine lv_iconst (v := (-1)) hx hb dX3_holds_10 (by decide) ?_
    exact rw_iret hx hb hr hS hlocks (rd, bb) (show s_X3_holds n hd fi un may on asd what = (-1) from by (unfold s_X3_holds; (try dsimp only); (try rw [if_pos c_7_1]); first | done | rfl)).symm hP hD dX3_holds_11

def f_X3_known_23 (n : Nat) (hd : Nat → Int32) (fi : Nat → Int32) (un : Nat → Int32) (may : Int32) (on : Int32) (asd : Int32) (j23 : Nat) (st : Int32 × Int32) : Int32 × Int32 := match st with | (less, more) => ((s_X3_grows__v n hd fi un asd on more), (s_X3_grows__v n hd fi un (asd ||| may) on (s_X3_grows__v n hd fi un asd on more)))
def s_X3_known (n : Nat) (hd : Nat → Int32) (fi : Nat → Int32) (un : Nat → Int32) (may : Int32) (on : Int32) (asd : Int32) (a : Int32) : Int32 := (if (s_X3_in ((a : Int32).toInt64) 0 7) = 0 then (-1) else (match itr (f_X3_known_23 n hd fi un may on asd) (0, 255) 20 with | (less, more) => (if (s_X3_has less a) = 0 then (if (s_X3_has more a) = 0 then 0 else (-9)) else 1)))
set_option maxHeartbeats 4000000 in
set_option maxRecDepth 100000 in
theorem c_X3_known (l : Launch) (D : va_G) (h : Nat → Nat) (cA : Nat → ClassId) (n : Nat) (hd : Nat → Int32) (fi : Nat → Int32) (un : Nat → Int32) (on : Int32) (may : Int32) (asd : Int32) (tx : Nat → Int32) (td : Int32) (kp : Nat → Int32) (ko : Nat → Int32) (ka : Nat → Int32) (tr : Int64) (pat : Int32) (pfr : Int32) (rhd : Nat → Int32) (rif : Nat → Int32) (rul : Nat → Int32) (prr : Int32) (prm : Int32) (rd : Nat → Int32) (bb : Nat → Int32) (nw : Nat → Int32) (ot : Nat → Int32) (ev : Nat → Int32) (od : Nat → Int32) (a : Int32) (hn : n ≤ 10) (hhd : ∀ k : Nat, k < n → ¬ hd k = 8 → vp_in (hd k) 8) (sz : Nat) : Met l yX3_known wsX3_known ({ frames := 2, cells := 0, slots := 0, locals := 49 }) (va_Pc [.ref (h 0), .int a] (cPre D (tM h cA) (wM h cA (nI n) hd fi un on may asd tx td kp ko ka tr pat pfr rhd rif rul prr prm rd bb nw ot ev od) sz)) (va_Qi (fun (r : Int32) (u : (Nat → Int32) × (Nat → Int32)) => r = s_X3_known n hd fi un may on asd a) (rwB D (fun u : (Nat → Int32) × (Nat → Int32) => (wM h cA (nI n) hd fi un on may asd tx td kp ko ka tr pat pfr rhd rif rul prr prm u.1 u.2 nw ot ev od)) (va_A (wM h cA (nI n) hd fi un on may asd tx td kp ko ka tr pat pfr rhd rif rul prr prm rd bb nw ot ev od) sz)) (va_A (wM h cA (nI n) hd fi un on may asd tx td kp ko ka tr pat pfr rhd rif rul prr prm rd bb nw ot ev od) sz)) 0 0 (va_A (wM h cA (nI n) hd fi un on may asd tx td kp ko ka tr pat pfr rhd rif rul prr prm rd bb nw ot ev od) sz) := by
  refine Met.ofW (cc := cX3_known) (maxL := 5) (ret := (some .int)) (by decide) rfl ?_
  intro p e s m args below meth c s₁ B hml hv
  obtain ⟨rfl, hsz, hP, hK, hD, hN⟩ := hv
  have hx := B.exec
  have hb := B.bytes
  have hr := B.returns
  have hts := atoms_spec (ws := wsX3_known) B.pre
  have hown : s.vm.findClass RX3 = some m.cls := findClass_of_methodNamed B.named
  have hlocks := B.notSynchronized
  have hinX3 : ∀ w ∈ wsX30, w ∈ wsX3_known := fun w h => List.mem_cons_of_mem _ (List.mem_append_right _ h)
  subst hsz
  replace hD := hD.self (sz := s.heap.size)
  generalize hAe : va_A (wM h cA (nI n) hd fi un on may asd tx td kp ko ka tr pat pfr rhd rif rul prr prm rd bb nw ot ev od) s.heap.size = A at hD ⊢
  have hA : ∀ q : Nat, s.heap.size ≤ q → A q := fun q h => by rw [← hAe]; exact Or.inr h
  have hS : va_S A s.heap s.heap [] := va_S.rf
  have hl := lv_entry ([.ref (h 0), .int a]) (n := 5) (Nat.le_of_ble_eq_true rfl)
  rw [lg_entry_eq]
  generalize (lg_sl ([.ref (h 0), .int a]) ++ List.replicate (5 - (lg_sl ([.ref (h 0), .int a])).length) Slot.unset).toArray = ls at hl ⊢
  replace hl : lv_has ls 5 [(0, .ref (h 0)), (1, .int a)] := hl
  have hKe := hK.sub (tys' := []) [] rfl
  refine lv_iload_n hx hb dX3_known_0 rfl (lv_at hl 1 rfl) ?_
  refine lv_i2l hx hb dX3_known_1 rfl ?_
  refine lv_lconst (v := 0) hx hb dX3_known_2 (by decide) ?_
  refine lv_ldc2 (v := 7) hx hb hown (hts (.constantLong RX3 128 (7)) (by decide +kernel)) dX3_known_3 ?_
  refine ro_i (D := D) (va_runS (As := [.long ((a : Int32).toInt64), .long 0, .long 7]) (rest := []) ⟨hx, hb, hml, hown, hts⟩ (c_X3_in l D ((a : Int32).toInt64) 0 7  _) (va_cwS 3 hts gX3_known_X3_in rfl rfl rfl (by decide +kernel) ⟨Nat.le_of_ble_eq_true rfl, Nat.le_of_ble_eq_true rfl⟩) ⟨cPre.blind, cPre.mk vP0 hKe vD0 hN⟩ rfl rfl hl.1 rfl (lv_room (Nat.le_of_ble_eq_true rfl)) dX3_known_6 ⟨Nat.zero_le _, Nat.zero_le _⟩) hS hA (fun H locs hkp0 hS => ?_)
  replace hP := hkp0 _ hP
  refine lv_if_ne (tgt := 14) hx hb dX3_known_9 (by decide) (fun c_9_1 => ?_) (fun c_9_1 => ?_)
  · refine lv_iconst (v := 0) hx hb dX3_known_14 (by decide) ?_
    refine lv_istore_n (lv' := [(2, .int 0), (0, .ref (h 0)), (1, .int a)]) hx hb dX3_known_15 rfl hl (by decide) rfl (fun ls hl => ?_)
    refine lv_sipush (v := 255) hx hb dX3_known_16 (by decide) ?_
    refine lv_istore_n (lv' := [(3, .int 255), (2, .int 0), (0, .ref (h 0)), (1, .int a)]) hx hb dX3_known_19 rfl hl (by decide) rfl (fun ls hl => ?_)
    refine lv_iconst (v := 0) hx hb dX3_known_20 (by decide) ?_
    refine lv_istore (lv' := [(4, .int 0), (3, .int 255), (2, .int 0), (0, .ref (h 0)), (1, .int a)]) hx hb dX3_known_21 hl (by decide) rfl (fun ls hl => ?_)
    have lp23_4 : ∀ (z_2 j23 : Nat), j23 + z_2 = 20 → ∀ (less : Int32) (more : Int32), (less, more) = itr (f_X3_known_23 n hd fi un may on asd) (0, 255) j23 → ∀ (rd_3 : Nat → Int32) (bb_4 : Nat → Int32) (H : Heap) (locs : List Loc), va_P D vwCl (wM h cA (nI n) hd fi un on may asd tx td kp ko ka tr pat pfr rhd rif rul prr prm rd_3 bb_4 nw ot ev od) H → va_D A (wM h cA (nI n) hd fi un on may asd tx td kp ko ka tr pat pfr rhd rif rul prr prm rd_3 bb_4 nw ot ev od) → va_S A s.heap H locs → ∀ ls : Array Slot, lv_has ls 5 [(0, .ref (h 0)), (1, .int a), (2, .int less), (3, .int more), (4, .int (nI j23))] → W p l e (headSpec wsX3_known ({ frames := 2, cells := 0, slots := 0, locals := 49 })).room s m ([.ref (h 0), .int a] : List Value).toArray below meth c H locs 0 0 (MQ below (va_Qi (fun (r : Int32) (u : (Nat → Int32) × (Nat → Int32)) => r = s_X3_known n hd fi un may on asd a) (rwB D (fun u : (Nat → Int32) × (Nat → Int32) => (wM h cA (nI n) hd fi un on may asd tx td kp ko ka tr pat pfr rhd rif rul prr prm u.1 u.2 nw ot ev od)) A) A) ([.ref (h 0), .int a] : List Value).toArray s 0 0 A) (F0 m 23 ls []) := by
      intro z_2
      induction z_2 with
      | zero =>
        intro j23 hj23 less more he23  rd_3 bb_4 H locs hP hD hS ls hl
        obtain rfl : 20 = j23 := by omega
        refine lv_iload hx hb dX3_known_23 (lv_at hl 4 rfl) ?_
        refine lv_bipush (v := 20) hx hb dX3_known_25 (by decide) ?_
        refine lv_icmp_ge (tgt := 69) hx hb dX3_known_27 (by decide) (fun _ => ?_) (fun hh_6 => absurd (nI_le (a := 20) (b := 20) (by omega) (by omega)) hh_6)
        refine lv_iload_n hx hb dX3_known_69 rfl (lv_at hl 2 rfl) ?_
        refine lv_iload_n hx hb dX3_known_70 rfl (lv_at hl 1 rfl) ?_
        refine ro_i (D := D) (va_runS (As := [.int less, .int a]) (rest := []) ⟨hx, hb, hml, hown, hts⟩ (c_X3_has l D less a  _) (va_cwS 2 hts gX3_known_X3_has rfl rfl rfl (by decide +kernel) ⟨Nat.le_of_ble_eq_true rfl, Nat.le_of_ble_eq_true rfl⟩) ⟨cPre.blind, cPre.mk vP0 hKe vD0 hN⟩ rfl rfl hl.1 rfl (lv_room (Nat.le_of_ble_eq_true rfl)) dX3_known_71 ⟨Nat.zero_le _, Nat.zero_le _⟩) hS hA (fun H locs hkp0 hS => ?_)
        replace hP := hkp0 _ hP
        refine lv_if_eq (tgt := 81) hx hb dX3_known_74 (by decide) (fun c_74_7 => ?_) (fun c_74_7 => ?_)
        · refine lv_iload_n hx hb dX3_known_81 rfl (lv_at hl 3 rfl) ?_
          refine lv_iload_n hx hb dX3_known_82 rfl (lv_at hl 1 rfl) ?_
          refine ro_i (D := D) (va_runS (As := [.int more, .int a]) (rest := []) ⟨hx, hb, hml, hown, hts⟩ (c_X3_has l D more a  _) (va_cwS 2 hts gX3_known_X3_has rfl rfl rfl (by decide +kernel) ⟨Nat.le_of_ble_eq_true rfl, Nat.le_of_ble_eq_true rfl⟩) ⟨cPre.blind, cPre.mk vP0 hKe vD0 hN⟩ rfl rfl hl.1 rfl (lv_room (Nat.le_of_ble_eq_true rfl)) dX3_known_83 ⟨Nat.zero_le _, Nat.zero_le _⟩) hS hA (fun H locs hkp0 hS => ?_)
          replace hP := hkp0 _ hP
          refine lv_if_eq (tgt := 94) hx hb dX3_known_86 (by decide) (fun c_86_8 => ?_) (fun c_86_8 => ?_)
          · refine lv_iconst (v := 0) hx hb dX3_known_94 (by decide) ?_
            exact rw_iret hx hb hr hS hlocks (rd_3, bb_4) (show s_X3_known n hd fi un may on asd a = 0 from by (unfold s_X3_known; (try dsimp only); (try rw [if_neg c_9_1]); (try rw [← he23]); (try dsimp only); (try rw [if_pos c_74_7]); (try rw [if_pos c_86_8]); first | done | rfl)).symm hP hD dX3_known_95
          · refine lv_bipush (v := (-9)) hx hb dX3_known_89 (by decide) ?_
            refine lv_goto (tgt := 95) hx hb dX3_known_91 (by decide) ?_
            exact rw_iret hx hb hr hS hlocks (rd_3, bb_4) (show s_X3_known n hd fi un may on asd a = (-9) from by (unfold s_X3_known; (try dsimp only); (try rw [if_neg c_9_1]); (try rw [← he23]); (try dsimp only); (try rw [if_pos c_74_7]); (try rw [if_neg c_86_8]); first | done | rfl)).symm hP hD dX3_known_95
        · refine lv_iconst (v := 1) hx hb dX3_known_77 (by decide) ?_
          refine lv_goto (tgt := 95) hx hb dX3_known_78 (by decide) ?_
          exact rw_iret hx hb hr hS hlocks (rd_3, bb_4) (show s_X3_known n hd fi un may on asd a = 1 from by (unfold s_X3_known; (try dsimp only); (try rw [if_neg c_9_1]); (try rw [← he23]); (try dsimp only); (try rw [if_neg c_74_7]); first | done | rfl)).symm hP hD dX3_known_95
      | succ z_2 ih23 =>
        intro j23 hj23 less more he23  rd_3 bb_4 H locs hP hD hS ls hl
        refine lv_iload hx hb dX3_known_23 (lv_at hl 4 rfl) ?_
        refine lv_bipush (v := 20) hx hb dX3_known_25 (by decide) ?_
        refine lv_icmp_ge (tgt := 69) hx hb dX3_known_27 (by decide) (fun hh_10 => absurd hh_10 (nI_ge (a := j23) (b := 20) (by omega) (by omega))) (fun _ => ?_)
        refine lv_aload_n hx hb dX3_known_30 rfl (lv_at hl 0 rfl) ?_
        refine lv_aload_n hx hb dX3_known_31 rfl (lv_at hl 0 rfl) ?_
        refine va_get (D := D) (ci := 3) (v := .int asd) (C := RX3) (T := TX3) (N := 26) hx hb hts hinX3 hown hK hP 0 rfl rfl 6 (by decide) (hts (.fieldLink RX3 120 "HoldUnlessModel" "assumed" "I") (by decide +kernel)) (fun _ h9 => h9) rfl dX3_known_32 ?_
        refine lv_aload_n hx hb dX3_known_35 rfl (lv_at hl 0 rfl) ?_
        refine va_get (D := D) (ci := 3) (v := .int on) (C := RX3) (T := TX3) (N := 26) hx hb hts hinX3 hown hK hP 0 rfl rfl 4 (by decide) (hts (.fieldLink RX3 114 "HoldUnlessModel" "on" "I") (by decide +kernel)) (fun _ h9 => h9) rfl dX3_known_36 ?_
        refine lv_iload_n hx hb dX3_known_39 rfl (lv_at hl 3 rfl) ?_
        have hFc := va_free (wc := (wM h cA (nI n) hd fi un on may asd tx td kp ko ka tr pat pfr rhd rif rul prr prm rd_3 bb_4 nw ot ev od)) hD hS hA [0, 1, 2, 3, 4, 5, 6, 7, 8, 9, 10, 11, 12, 13, 14, 15, 16] rfl
        refine rw_i (D := D) (wc := (wM h cA (nI n) hd fi un on may asd tx td kp ko ka tr pat pfr rhd rif rul prr prm rd_3 bb_4 nw ot ev od)) (va_runV (As := [.int asd, .int on, .int more]) (rest := []) ⟨hx, hb, hml, hown, hts⟩ (c_X3_grows__v l D h cA n hd fi un on may asd tx td kp ko ka tr pat pfr rhd rif rul prr prm rd_3 bb_4 nw ot ev od asd on more (by first | assumption | omega) hhd _) (cwV 3 hts gX3_known_X3_grows rfl rfl rfl (by decide +kernel) ⟨Nat.le_of_ble_eq_true rfl, Nat.le_of_ble_eq_true rfl⟩) ⟨cPre.blind, va_recv hK hP (ci := 3) (q0 := 0) rfl rfl, cPre.mk hP hK hD hN⟩ rfl rfl hl.1 rfl (lv_room (Nat.le_of_ble_eq_true rfl)) dX3_known_40 ⟨Nat.zero_le _, Nat.zero_le _⟩) hS hFc (fun rv_13 u H1 locs hw_14 hP1 hD1 hk1 hS => ?_)
        obtain ⟨rdv_11, bbv_12⟩ := u
        try dsimp only at hw_14
        have hP : va_P D vwCl (wM h cA (nI n) hd fi un on may asd tx td kp ko ka tr pat pfr rhd rif rul prr prm rdv_11 bbv_12 nw ot ev od) H1 := hP1
        have hD : va_D A (wM h cA (nI n) hd fi un on may asd tx td kp ko ka tr pat pfr rhd rif rul prr prm rdv_11 bbv_12 nw ot ev od) := hD1.weaken (fun k q hk h => hFc _ h)
        clear hP1 hD1 hFc hk1
        generalize H1 = H at hP hS ⊢
        subst hw_14
        refine lv_istore_n (lv' := [(2, .int (s_X3_grows__v n hd fi un asd on more)), (0, .ref (h 0)), (1, .int a), (3, .int more), (4, .int (nI j23))]) hx hb dX3_known_43 rfl hl (by decide) rfl (fun ls hl => ?_)
        refine lv_aload_n hx hb dX3_known_44 rfl (lv_at hl 1 rfl) ?_
        refine lv_aload_n hx hb dX3_known_45 rfl (lv_at hl 1 rfl) ?_
        refine va_get (D := D) (ci := 3) (v := .int asd) (C := RX3) (T := TX3) (N := 26) hx hb hts hinX3 hown hK hP 0 rfl rfl 6 (by decide) (hts (.fieldLink RX3 120 "HoldUnlessModel" "assumed" "I") (by decide +kernel)) (fun _ h9 => h9) rfl dX3_known_46 ?_
        refine lv_aload_n hx hb dX3_known_49 rfl (lv_at hl 1 rfl) ?_
        refine va_get (D := D) (ci := 3) (v := .int may) (C := RX3) (T := TX3) (N := 26) hx hb hts hinX3 hown hK hP 0 rfl rfl 5 (by decide) (hts (.fieldLink RX3 117 "HoldUnlessModel" "may" "I") (by decide +kernel)) (fun _ h9 => h9) rfl dX3_known_50 ?_
        refine lv_ior hx hb dX3_known_53 ?_
        refine lv_aload_n hx hb dX3_known_54 rfl (lv_at hl 1 rfl) ?_
        refine va_get (D := D) (ci := 3) (v := .int on) (C := RX3) (T := TX3) (N := 26) hx hb hts hinX3 hown hK hP 0 rfl rfl 4 (by decide) (hts (.fieldLink RX3 114 "HoldUnlessModel" "on" "I") (by decide +kernel)) (fun _ h9 => h9) rfl dX3_known_55 ?_
        refine lv_iload_n hx hb dX3_known_58 rfl (lv_at hl 0 rfl) ?_
        have hFc := va_free (wc := (wM h cA (nI n) hd fi un on may asd tx td kp ko ka tr pat pfr rhd rif rul prr prm rdv_11 bbv_12 nw ot ev od)) hD hS hA [0, 1, 2, 3, 4, 5, 6, 7, 8, 9, 10, 11, 12, 13, 14, 15, 16] rfl
        refine rw_i (D := D) (wc := (wM h cA (nI n) hd fi un on may asd tx td kp ko ka tr pat pfr rhd rif rul prr prm rdv_11 bbv_12 nw ot ev od)) (va_runV (As := [.int (asd ||| may), .int on, .int (s_X3_grows__v n hd fi un asd on more)]) (rest := []) ⟨hx, hb, hml, hown, hts⟩ (c_X3_grows__v l D h cA n hd fi un on may asd tx td kp ko ka tr pat pfr rhd rif rul prr prm rdv_11 bbv_12 nw ot ev od (asd ||| may) on (s_X3_grows__v n hd fi un asd on more) (by first | assumption | omega) hhd _) (cwV 3 hts gX3_known_X3_grows rfl rfl rfl (by decide +kernel) ⟨Nat.le_of_ble_eq_true rfl, Nat.le_of_ble_eq_true rfl⟩) ⟨cPre.blind, va_recv hK hP (ci := 3) (q0 := 0) rfl rfl, cPre.mk hP hK hD hN⟩ rfl rfl hl.1 rfl (lv_room (Nat.le_of_ble_eq_true rfl)) dX3_known_59 ⟨Nat.zero_le _, Nat.zero_le _⟩) hS hFc (fun rv_17 u H1 locs hw_18 hP1 hD1 hk1 hS => ?_)
        obtain ⟨rdv_15, bbv_16⟩ := u
        try dsimp only at hw_18
        have hP : va_P D vwCl (wM h cA (nI n) hd fi un on may asd tx td kp ko ka tr pat pfr rhd rif rul prr prm rdv_15 bbv_16 nw ot ev od) H1 := hP1
        have hD : va_D A (wM h cA (nI n) hd fi un on may asd tx td kp ko ka tr pat pfr rhd rif rul prr prm rdv_15 bbv_16 nw ot ev od) := hD1.weaken (fun k q hk h => hFc _ h)
        clear hP1 hD1 hFc hk1
        generalize H1 = H at hP hS ⊢
        subst hw_18
        refine lv_istore_n (lv' := [(3, .int (s_X3_grows__v n hd fi un (asd ||| may) on (s_X3_grows__v n hd fi un asd on more))), (2, .int (s_X3_grows__v n hd fi un asd on more)), (0, .ref (h 0)), (1, .int a), (4, .int (nI j23))]) hx hb dX3_known_62 rfl hl (by decide) rfl (fun ls hl => ?_)
        refine lv_iinc (v := nI (j23 + 1)) (lv' := [(4, .int (nI (j23 + 1))), (3, .int (s_X3_grows__v n hd fi un (asd ||| may) on (s_X3_grows__v n hd fi un asd on more))), (2, .int (s_X3_grows__v n hd fi un asd on more)), (0, .ref (h 0)), (1, .int a)]) hx hb dX3_known_63 hl (k := 4) rfl (inc_nI j23) (by decide) rfl (fun ls hl => ?_)
        refine lv_goto (tgt := 23) hx hb dX3_known_66 (by decide) ?_
        exact ih23 (j23 + 1) (by omega) (s_X3_grows__v n hd fi un asd on more) (s_X3_grows__v n hd fi un (asd ||| may) on (s_X3_grows__v n hd fi un asd on more)) (itr_step he23 (by (unfold f_X3_known_23; (try dsimp only); first | done | rfl)))  rdv_15 bbv_16 _ _ hP hD hS _ (lv_sub hl [3, 4, 2, 1, 0] rfl)
    exact lp23_4 20 0 (by omega) 0 255 (itr_zero _ _).symm  rd bb _ _ hP hD hS _ (lv_sub hl [3, 4, 2, 1, 0] rfl)
  · refine lv_iconst (v := (-1)) hx hb dX3_known_12 (by decide) ?_
    exact rw_iret hx hb hr hS hlocks (rd, bb) (show s_X3_known n hd fi un may on asd a = (-1) from by (unfold s_X3_known; (try dsimp only); (try rw [if_pos c_9_1]); first | done | rfl)).symm hP hD dX3_known_13

