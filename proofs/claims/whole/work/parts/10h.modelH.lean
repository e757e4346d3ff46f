theorem rw_ie {p : Program} {l : Launch} {e : Env} {R : Room} {s : State} {m : MethodId} {args : Array Value} {below : List Frame} {meth : Method} {c : Code} {H : Heap} {locs : List Loc} {cells slots : Nat} {Q : State → Prop} {pc : Nat} {ls : Array Slot} {rest st0 : List Value} {a : Array Value} {A0 : Nat → Prop} {H0 : Heap} {D : va_G} {S : Type} {v : Int32} {Bw : S → va_W} {wc : va_W} (hr : va_Run p l e R s m args below meth c H locs cells slots 0 0 (F0 m pc ls st0) rest (va_Qi (fun r (_ : S) => r = v) (rwB D Bw (va_A wc H.size)) (va_A wc H.size) a) (va_A wc H.size)) (hS : va_S A0 H0 H locs) (hF : ∀ q, va_A wc H.size q → A0 q)
    (kk : ∀ (u : S) (H1 : Heap) (locs1 : List Loc), va_P D vwCl (Bw u) H1 → va_D (va_A wc H.size) (Bw u) → (∀ q : Nat, q < H.size → ¬ va_A wc H.size q → H1[q]? = H[q]?) → va_S A0 H0 H1 locs1 → W p l e R s m args below meth c H1 locs1 cells slots Q (F0 m (pc + 3) ls (.int v :: rest))) : W p l e R s m args below meth c H locs cells slots Q (F0 m pc ls st0) :=
  rw_i hr hS hF (fun r u H1 locs1 hp hP hD hk hS1 => by subst hp; exact kk u H1 locs1 hP hD hk hS1)

def f_X3_isInSome_4 (n : Nat) (hd : Nat → Int32) (fi : Nat → Int32) (un : Nat → Int32) (may : Int32) (on : Int32) (a : Int32) (facts : Int32) (j4 : Nat) (st : Int32) : Int32 ⊕ (Int32) := match st with | s3 => (if (s_X3_has s3 a) = 0 then (.inr (s3 + (-1))) else (if (s_X3_doesStand n hd fi un may s3 on facts) = 0 then (.inr (s3 + (-1))) else (.inl 1)))
def s_X3_isInSome (n : Nat) (hd : Nat → Int32) (fi : Nat → Int32) (un : Nat → Int32) (may : Int32) (on : Int32) (a : Int32) (facts : Int32) : Int32 := (onE (itE (f_X3_isInSome_4 n hd fi un may on a facts) 255 256) (fun st => match st with | s3 => 0))
set_option maxHeartbeats 4000000 in
set_option maxRecDepth 100000 in
theorem c_X3_isInSome (l : Launch) (D : va_G) (h : Nat → Nat) (cA : Nat → ClassId) (n : Nat) (hd : Nat → Int32) (fi : Nat → Int32) (un : Nat → Int32) (on : Int32) (may : Int32) (asd : Int32) (tx : Nat → Int32) (td : Int32) (kp : Nat → Int32) (ko : Nat → Int32) (ka : Nat → Int32) (tr : Int64) (pat : Int32) (pfr : Int32) (rhd : Nat → Int32) (rif : Nat → Int32) (rul : Nat → Int32) (prr : Int32) (prm : Int32) (rd : Nat → Int32) (bb : Nat → Int32) (nw : Nat → Int32) (ot : Nat → Int32) (ev : Nat → Int32) (od : Nat → Int32) (a : Int32) (facts : Int32) (hn : n ≤ 10) (hhd : ∀ k : Nat, k < n → ¬ hd k = 8 → vp_in (hd k) 8) (sz : Nat) : Met l yX3_isInSome wsX3_isInSome ({ frames := 3, cells := 0, slots := 0, locals := 72 }) (va_Pc [.ref (h 0), .int a, .int facts] (cPre D (tM h cA) (wM h cA (nI n) hd fi un on may asd tx td kp ko ka tr pat pfr rhd rif rul prr prm rd bb nw ot ev od) sz)) (va_Qi (fun (r : Int32) (u : (Nat → Int32) × (Nat → Int32)) => r = s_X3_isInSome n hd fi un may on a facts) (rwB D (fun u : (Nat → Int32) × (Nat → Int32) => (wM h cA (nI n) hd fi un on may asd tx td kp ko ka tr pat pfr rhd rif rul prr prm u.1 u.2 nw ot ev od)) (va_A (wM h cA (nI n) hd fi un on may asd tx td kp ko ka tr pat pfr rhd rif rul prr prm rd bb nw ot ev od) sz)) (va_A (wM h cA (nI n) hd fi un on may asd tx td kp ko ka tr pat pfr rhd rif rul prr prm rd bb nw ot ev od) sz)) 0 0 (va_A (wM h cA (nI n) hd fi un on may asd tx td kp ko ka tr pat pfr rhd rif rul prr prm rd bb nw ot ev od) sz) := by
  refine Met.ofW (cc := cX3_isInSome) (maxL := 4) (ret := (some .boolean)) (by decide) rfl ?_
  intro p e s m args below meth c s₁ B hml hv
  obtain ⟨rfl, hsz, hP, hK, hD, hN⟩ := hv
  have hx := B.exec
  have hb := B.bytes
  have hr := B.returns
  have hts := atoms_spec (ws := wsX3_isInSome) B.pre
  have hown : s.vm.findClass RX3 = some m.cls := findClass_of_methodNamed B.named
  have hlocks := B.notSynchronized
  have hinX3 : ∀ w ∈ wsX30, w ∈ wsX3_isInSome := fun w h => List.mem_cons_of_mem _ (List.mem_append_right _ h)
  subst hsz
  replace hD := hD.self (sz := s.heap.size)
  generalize hAe : va_A (wM h cA (nI n) hd fi un on may asd tx td kp ko ka tr pat pfr rhd rif rul prr prm rd bb nw ot ev od) s.heap.size = A at hD ⊢
  have hA : ∀ q : Nat, s.heap.size ≤ q → A q := fun q h => by rw [← hAe]; exact Or.inr h
  have hS : va_S A s.heap s.heap [] := va_S.rf
  have hl := lv_entry ([.ref (h 0), .int a, .int facts]) (n := 4) (Nat.le_of_ble_eq_true rfl)
  rw [lg_entry_eq]
  generalize (lg_sl ([.ref (h 0), .int a, .int facts]) ++ List.replicate (4 - (lg_sl ([.ref (h 0), .int a, .int facts])).length) Slot.unset).toArray = ls at hl ⊢
  replace hl : lv_has ls 4 [(0, .ref (h 0)), (1, .int a), (2, .int facts)] := hl
  have hKe := hK.sub (tys' := []) [] rfl
  refine lv_sipush (v := 255) hx hb dX3_isInSome_0 (by decide) ?_
  refine lv_istore_n (lv' := [(3, .int 255), (0, .ref (h 0)), (1, .int a), (2, .int facts)]) hx hb dX3_isInSome_3 rfl hl (by decide) rfl (fun ls hl => ?_)
  have lp4_3 : ∀ (z_1 j4 : Nat), j4 + z_1 = 256 → ∀ (s3 : Int32), itE (f_X3_isInSome_4 n hd fi un may on a facts) 255 j4 = .inr s3 → (s3 = 255 - nI j4) → ∀ (rd_2 : Nat → Int32) (bb_3 : Nat → Int32) (H : Heap) (locs : List Loc), va_P D vwCl (wM h cA (nI n) hd fi un on may asd tx td kp ko ka tr pat pfr rhd rif rul prr prm rd_2 bb_3 nw ot ev od) H → va_D A (wM h cA (nI n) hd fi un on may asd tx td kp ko ka tr pat pfr rhd rif rul prr prm rd_2 bb_3 nw ot ev od) → va_S A s.heap H locs → ∀ ls : Array Slot, lv_has ls 4 [(0, .ref (h 0)), (1, .int a), (2, .int facts), (3, .int s3)] → W p l e (headSpec wsX3_isInSome ({ frames := 3, cells := 0, slots := 0, locals := 72 })).room s m ([.ref (h 0), .int a, .int facts] : List Value).toArray below meth c H locs 0 0 (MQ below (va_Qi (fun (r : Int32) (u : (Nat → Int32) × (Nat → Int32)) => r = s_X3_isInSome n hd fi un may on a facts) (rwB D (fun u : (Nat → Int32) × (Nat → Int32) => (wM h cA (nI n) hd fi un on may asd tx td kp ko ka tr pat pfr rhd rif rul prr prm u.1 u.2 nw ot ev od)) A) A) ([.ref (h 0), .int a, .int facts] : List Value).toArray s 0 0 A) (F0 m 4 ls []) := by
    intro z_1
    induction z_1 with
    | zero =>
      intro j4 hj4 s3 he4 h3 rd_2 bb_3 H locs hP hD hS ls hl
      obtain rfl : 256 = j4 := by omega
      refine lv_iload_n hx hb dX3_isInSome_4 rfl (lv_at hl 3 rfl) ?_
      refine lv_if_lt (tgt := 37) hx hb dX3_isInSome_5 (by decide) (fun _ => ?_) (fun hh_5 => absurd (by rw [h3]; decide) hh_5)
      refine lv_iconst (v := 0) hx hb dX3_isInSome_37 (by decide) ?_
      exact rw_zret hx hb hr hS hlocks (rd_2, bb_3) (show s_X3_isInSome n hd fi un may on a facts = 0 from by (unfold s_X3_isInSome; (try dsimp only); (try rw [he4]); (try dsimp only [onE]); first | done | with_reducible rfl)).symm hP hD (by decide +kernel) dX3_isInSome_38
    | succ z_1 ih4 =>
      intro j4 hj4 s3 he4 h3 rd_2 bb_3 H locs hP hD hS ls hl
      refine lv_iload_n hx hb dX3_isInSome_4 rfl (lv_at hl 3 rfl) ?_
      refine lv_if_lt (tgt := 37) hx hb dX3_isInSome_5 (by decide) (fun hh_7 => absurd hh_7 (dn_pos h3 (by omega))) (fun _ => ?_)
      refine lv_iload_n hx hb dX3_isInSome_8 rfl (lv_at hl 3 rfl) ?_
      refine lv_iload_n hx hb dX3_isInSome_9 rfl (lv_at hl 1 rfl) ?_
      refine ro_i (D := D) (va_runS (As := [.int s3, .int a]) (rest := []) ⟨hx, hb, hml, hown, hts⟩ (c_X3_has l D s3 a  _) (va_cwS 2 hts gX3_isInSome_X3_has rfl rfl rfl (by decide +kernel) ⟨Nat.le_of_ble_eq_true rfl, Nat.le_of_ble_eq_true rfl⟩) ⟨cPre.blind, cPre.mk vP0 hKe vD0 hN⟩ rfl rfl hl.1 rfl (lv_room (Nat.le_of_ble_eq_true rfl)) dX3_isInSome_10 ⟨Nat.zero_le _, Nat.zero_le _⟩) hS hA (fun H locs hkp0 hS => ?_)
      replace hP := hkp0 _ hP
      refine lv_if_eq (tgt := 31) hx hb dX3_isInSome_13 (by decide) (fun c_13_8 => ?_) (fun c_13_8 => ?_)
      · refine lv_iinc (v := (s3 + (-1))) (lv' := [(3, .int (s3 + (-1))), (0, .ref (h 0)), (1, .int a), (2, .int facts)]) hx hb dX3_isInSome_31 hl (k := 3) rfl rfl (by decide) rfl (fun ls hl => ?_)
        refine lv_goto (tgt := 4) hx hb dX3_isInSome_34 (by decide) ?_
        exact ih4 (j4 + 1) (by omega) (s3 + (-1)) (itE_succ he4 (by (unfold f_X3_isInSome_4; (try dsimp only); (try rw [if_pos c_13_8]); first | done | with_reducible rfl))) (dn_step h3) rd_2 bb_3 _ _ hP hD hS _ (lv_sub hl [1, 2, 3, 0] rfl)
      · refine lv_aload_n hx hb dX3_isInSome_16 rfl (lv_at hl 0 rfl) ?_
        refine lv_iload_n hx hb dX3_isInSome_17 rfl (lv_at hl 3 rfl) ?_
        refine lv_aload_n hx hb dX3_isInSome_18 rfl (lv_at hl 0 rfl) ?_
        refine va_get (D := D) (ci := 3) (v := .int on) (C := RX3) (T := TX3) (N := 26) hx hb hts hinX3 hown hK hP 0 rfl rfl 4 (by decide) (hts (.fieldLink RX3 114 "HoldUnlessModel" "on" "I") (by decide +kernel)) (fun _ h9 => h9) rfl dX3_isInSome_19 ?_
        refine lv_iload_n hx hb dX3_isInSome_22 rfl (lv_at hl 2 rfl) ?_
        have hFc := va_free (wc := (wM h cA (nI n) hd fi un on may asd tx td kp ko ka tr pat pfr rhd rif rul prr prm rd_2 bb_3 nw ot ev od)) hD hS hA [0, 1, 2, 3, 4, 5, 6, 7, 8, 9, 10, 11, 12, 13, 14, 15, 16] rfl
        refine rw_i (D := D) (wc := (wM h cA (nI n) hd fi un on may asd tx td kp ko ka tr pat pfr rhd rif rul prr prm rd_2 bb_3 nw ot ev od)) (va_runV (As := [.int s3, .int on, .int facts]) (rest := []) ⟨hx, hb, hml, hown, hts⟩ (c_X3_doesStand l D h cA n hd fi un on may asd tx td kp ko ka tr pat pfr rhd rif rul prr prm rd_2 bb_3 nw ot ev od s3 on facts (by first | assumption | omega) hhd _) (cwV 3 hts gX3_isInSome_X3_doesStand rfl rfl rfl (by decide +kernel) ⟨Nat.le_of_ble_eq_true rfl, Nat.le_of_ble_eq_true rfl⟩) ⟨cPre.blind, va_recv hK hP (ci := 3) (q0 := 0) rfl rfl, cPre.mk hP hK hD hN⟩ rfl rfl hl.1 rfl (lv_room (Nat.le_of_ble_eq_true rfl)) dX3_isInSome_23 ⟨Nat.zero_le _, Nat.zero_le _⟩) hS hFc (fun rv_11 u H1 locs hw_12 hP1 hD1 hk1 hS => ?_)
        obtain ⟨rdv_9, bbv_10⟩ := u
        try dsimp only at hw_12
        have hP : va_P D vwCl (wM h cA (nI n) hd fi un on may asd tx td kp ko ka tr pat pfr rhd rif rul prr prm rdv_9 bbv_10 nw ot ev od) H1 := hP1
        have hD : va_D A (wM h cA (nI n) hd fi un on may asd tx td kp ko ka tr pat pfr rhd rif rul prr prm rdv_9 bbv_10 nw ot ev od) := hD1.weaken (fun k q hk h => hFc _ h)
        clear hP1 hD1 hFc hk1
        generalize H1 = H at hP hS ⊢
        subst hw_12
        refine lv_if_eq (tgt := 31) hx hb dX3_isInSome_26 (by decide) (fun c_26_13 => ?_) (fun c_26_13 => ?_)
        · refine lv_iinc (v := (s3 + (-1))) (lv' := [(3, .int (s3 + (-1))), (0, .ref (h 0)), (1, .int a), (2, .int facts)]) hx hb dX3_isInSome_31 hl (k := 3) rfl rfl (by decide) rfl (fun ls hl => ?_)
          refine lv_goto (tgt := 4) hx hb dX3_isInSome_34 (by decide) ?_
          exact ih4 (j4 + 1) (by omega) (s3 + (-1)) (itE_succ he4 (by (unfold f_X3_isInSome_4; (try dsimp only); (try rw [if_neg c_13_8]); (try rw [if_pos c_26_13]); first | done | with_reducible rfl))) (dn_step h3) rdv_9 bbv_10 _ _ hP hD hS _ (lv_sub hl [1, 2, 3, 0] rfl)
        · refine lv_iconst (v := 1) hx hb dX3_isInSome_29 (by decide) ?_
          have hs_14 : itE (f_X3_isInSome_4 n hd fi un may on a facts) 255 (j4 + 1) = (.inl 1) := itE_succ he4 (by (unfold f_X3_isInSome_4; (try dsimp only); (try rw [if_neg c_13_8]); (try rw [if_neg c_26_13]); first | done | with_reducible rfl))
          have hn_15 := itE_stop hs_14 256 (by omega)
          exact rw_zret hx hb hr hS hlocks (rdv_9, bbv_10) (show s_X3_isInSome n hd fi un may on a facts = 1 from by (unfold s_X3_isInSome; (try dsimp only); (try rw [hn_15]); (try dsimp only [onE]); first | done | with_reducible rfl)).symm hP hD (by decide +kernel) dX3_isInSome_30
  exact lp4_3 256 0 (by omega) 255 (itE_zero _ _) (by decide) rd bb _ _ hP hD hS _ (lv_sub hl [1, 2, 3, 0] rfl)

def f_X3_explains_32 (n : Nat) (hd : Nat → Int32) (fi : Nat → Int32) (un : Nat → Int32) (may : Int32) (on : Int32) (asd : Int32) (a : Int32) (sme : Int32) (j32 : Nat) (st : Int32) : Int32 := match st with | best => (if 0 ≤ best then (if (s_X3_ones best) ≤ (s_X3_ones (nI j32)) then (if ((nI j32) &&& (sme ^^^ (-1))) = 0 then best else best) else (if ((nI j32) &&& (sme ^^^ (-1))) = 0 then (if (s_X3_isInSome n hd fi un may on a (asd ||| (nI j32))) = 0 then best else nI j32) else best)) else (if 4 ≤ (s_X3_ones (nI j32)) then (if ((nI j32) &&& (sme ^^^ (-1))) = 0 then best else best) else (if ((nI j32) &&& (sme ^^^ (-1))) = 0 then (if (s_X3_isInSome n hd fi un may on a (asd ||| (nI j32))) = 0 then best else nI j32) else best)))
def s_X3_explains (n : Nat) (hd : Nat → Int32) (fi : Nat → Int32) (un : Nat → Int32) (may : Int32) (on : Int32) (asd : Int32) (a : Int32) (sme : Int32) : Int32 := (if (s_X3_in ((a : Int32).toInt64) 0 7) = 0 then (-1) else (if (s_X3_in ((sme : Int32).toInt64) 0 255) = 0 then (-1) else (match itr (f_X3_explains_32 n hd fi un may on asd a sme) (-9) (sme.toNatClampNeg + 1) with | best => best)))
set_option maxHeartbeats 4000000 in
set_option maxRecDepth 100000 in
theorem c_X3_explains (l : Launch) (D : va_G) (h : Nat → Nat) (cA : Nat → ClassId) (n : Nat) (hd : Nat → Int32) (fi : Nat → Int32) (un : Nat → Int32) (on : Int32) (may : Int32) (asd : Int32) (tx : Nat → Int32) (td : Int32) (kp : Nat → Int32) (ko : Nat → Int32) (ka : Nat → Int32) (tr : Int64) (pat : Int32) (pfr : Int32) (rhd : Nat → Int32) (rif : Nat → Int32) (rul : Nat → Int32) (prr : Int32) (prm : Int32) (rd : Nat → Int32) (bb : Nat → Int32) (nw : Nat → Int32) (ot : Nat → Int32) (ev : Nat → Int32) (od : Nat → Int32) (a : Int32) (sme : Int32) (hn : n ≤ 10) (hhd : ∀ k : Nat, k < n → ¬ hd k = 8 → vp_in (hd k) 8) (sz : Nat) : Met l yX3_explains wsX3_explains ({ frames := 4, cells := 0, slots := 0, locals := 95 }) (va_Pc [.ref (h 0), .int a, .int sme] (cPre D (tM h cA) (wM h cA (nI n) hd fi un on may asd tx td kp ko ka tr pat pfr rhd rif rul prr prm rd bb nw ot ev od) sz)) (va_Qi (fun (r : Int32) (u : (Nat → Int32) × (Nat → Int32)) => r = s_X3_explains n hd fi un may on asd a sme) (rwB D (fun u : (Nat → Int32) × (Nat → Int32) => (wM h cA (nI n) hd fi un on may asd tx td kp ko ka tr pat pfr rhd rif rul prr prm u.1 u.2 nw ot ev od)) (va_A (wM h cA (nI n) hd fi un on may asd tx td kp ko ka tr pat pfr rhd rif rul prr prm rd bb nw ot ev od) sz)) (va_A (wM h cA (nI n) hd fi un on may asd tx td kp ko ka tr pat pfr rhd rif rul prr prm rd bb nw ot ev od) sz)) 0 0 (va_A (wM h cA (nI n) hd fi un on may asd tx td kp ko ka tr pat pfr rhd rif rul prr prm rd bb nw ot ev od) sz) := by
  refine Met.ofW (cc := cX3_explains) (maxL := 6) (ret := (some .int)) (by decide) rfl ?_
  intro p e s m args below meth c s₁ B hml hv
  obtain ⟨rfl, hsz, hP, hK, hD, hN⟩ := hv
  have hx := B.exec
  have hb := B.bytes
  have hr := B.returns
  have hts := atoms_spec (ws := wsX3_explains) B.pre
  have hown : s.vm.findClass RX3 = some m.cls := findClass_of_methodNamed B.named
  have hlocks := B.notSynchronized
  have hinX3 : ∀ w ∈ wsX30, w ∈ wsX3_explains := fun w h => List.mem_cons_of_mem _ (List.mem_append_right _ h)
  subst hsz
  replace hD := hD.self (sz := s.heap.size)
  generalize hAe : va_A (wM h cA (nI n) hd fi un on may asd tx td kp ko ka tr pat pfr rhd rif rul prr prm rd bb nw ot ev od) s.heap.size = A at hD ⊢
  have hA : ∀ q : Nat, s.heap.size ≤ q → A q := fun q h => by rw [← hAe]; exact Or.inr h
  have hS : va_S A s.heap s.heap [] := va_S.rf
  have hl := lv_entry ([.ref (h 0), .int a, .int sme]) (n := 6) (Nat.le_of_ble_eq_true rfl)
  rw [lg_entry_eq]
  generalize (lg_sl ([.ref (h 0), .int a, .int sme]) ++ List.replicate (6 - (lg_sl ([.ref (h 0), .int a, .int sme])).length) Slot.unset).toArray = ls at hl ⊢
  replace hl : lv_has ls 6 [(0, .ref (h 0)), (1, .int a), (2, .int sme)] := hl
  have hKe := hK.sub (tys' := []) [] rfl
  refine lv_iload_n hx hb dX3_explains_0 rfl (lv_at hl 1 rfl) ?_
  refine lv_i2l hx hb dX3_explains_1 rfl ?_
  refine lv_lconst (v := 0) hx hb dX3_explains_2 (by decide) ?_
  refine lv_ldc2 (v := 7) hx hb hown (hts (.constantLong RX3 128 (7)) (by decide +kernel)) dX3_explains_3 ?_
  refine ro_i (D := D) (va_runS (As := [.long ((a : Int32).toInt64), .long 0, .long 7]) (rest := []) ⟨hx, hb, hml, hown, hts⟩ (c_X3_in l D ((a : Int32).toInt64) 0 7  _) (va_cwS 3 hts gX3_explains_X3_in rfl rfl rfl (by decide +kernel) ⟨Nat.le_of_ble_eq_true rfl, Nat.le_of_ble_eq_true rfl⟩) ⟨cPre.blind, cPre.mk vP0 hKe vD0 hN⟩ rfl rfl hl.1 rfl (lv_room (Nat.le_of_ble_eq_true rfl)) dX3_explains_6 ⟨Nat.zero_le _, Nat.zero_le _⟩) hS hA (fun H locs hkp0 hS => ?_)
  replace hP := hkp0 _ hP
  refine lv_if_eq (tgt := 24) hx hb dX3_explains_9 (by decide) (fun c_9_1 => ?_) (fun c_9_1 => ?_)
  · refine lv_iconst (v := (-1)) hx hb dX3_explains_24 (by decide) ?_
    exact rw_iret hx hb hr hS hlocks (rd, bb) (show s_X3_explains n hd fi un may on asd a sme = (-1) from by (unfold s_X3_explains; (try dsimp only); (try rw [if_pos c_9_1]); first | done | with_reducible rfl)).symm hP hD dX3_explains_25
  · refine lv_iload_n hx hb dX3_explains_12 rfl (lv_at hl 2 rfl) ?_
    refine lv_i2l hx hb dX3_explains_13 rfl ?_
    refine lv_lconst (v := 0) hx hb dX3_explains_14 (by decide) ?_
    refine lv_ldc2 (v := 255) hx hb hown (hts (.constantLong RX3 72 (255)) (by decide +kernel)) dX3_explains_15 ?_
    refine ro_i (D := D) (va_runS (As := [.long ((sme : Int32).toInt64), .long 0, .long 255]) (rest := []) ⟨hx, hb, hml, hown, hts⟩ (c_X3_in l D ((sme : Int32).toInt64) 0 255  _) (va_cwS 3 hts gX3_explains_X3_in rfl rfl rfl (by decide +kernel) ⟨Nat.le_of_ble_eq_true rfl, Nat.le_of_ble_eq_true rfl⟩) ⟨cPre.blind, cPre.mk vP0 hKe vD0 hN⟩ rfl rfl hl.1 rfl (lv_room (Nat.le_of_ble_eq_true rfl)) dX3_explains_18 ⟨Nat.zero_le _, Nat.zero_le _⟩) hS hA (fun H locs hkp0 hS => ?_)
    replace hP := hkp0 _ hP
    refine lv_if_ne (tgt := 26) hx hb dX3_explains_21 (by decide) (fun c_21_2 => ?_) (fun c_21_2 => ?_)
    · have hsm : sm_ok sme := sm_of (vp_inM (n := 256) (by decide) c_21_2) (by decide)
      refine lv_bipush (v := (-9)) hx hb dX3_explains_26 (by decide) ?_
      refine lv_istore_n (lv' := [(3, .int (-9)), (0, .ref (h 0)), (1, .int a), (2, .int sme)]) hx hb dX3_explains_28 rfl hl (by decide) rfl (fun ls hl => ?_)
      refine lv_iconst (v := 0) hx hb dX3_explains_29 (by decide) ?_
      refine lv_istore (lv' := [(4, .int 0), (3, .int (-9)), (0, .ref (h 0)), (1, .int a), (2, .int sme)]) hx hb dX3_explains_30 hl (by decide) rfl (fun ls hl => ?_)
      have lp32_5 : ∀ (z_3 j32 : Nat), j32 + z_3 = sme.toNatClampNeg + 1 → ∀ (best : Int32), best = itr (f_X3_explains_32 n hd fi un may on asd a sme) (-9) j32 → ∀ (rd_4 : Nat → Int32) (bb_5 : Nat → Int32) (H : Heap) (locs : List Loc), va_P D vwCl (wM h cA (nI n) hd fi un on may asd tx td kp ko ka tr pat pfr rhd rif rul prr prm rd_4 bb_5 nw ot ev od) H → va_D A (wM h cA (nI n) hd fi un on may asd tx td kp ko ka tr pat pfr rhd rif rul prr prm rd_4 bb_5 nw ot ev od) → va_S A s.heap H locs → ∀ ls : Array Slot, lv_has ls 6 [(0, .ref (h 0)), (1, .int a), (2, .int sme), (3, .int best), (4, .int (nI j32))] → W p l e (headSpec wsX3_explains ({ frames := 4, cells := 0, slots := 0, locals := 95 })).room s m ([.ref (h 0), .int a, .int sme] : List Value).toArray below meth c H locs 0 0 (MQ below (va_Qi (fun (r : Int32) (u : (Nat → Int32) × (Nat → Int32)) => r = s_X3_explains n hd fi un may on asd a sme) (rwB D (fun u : (Nat → Int32) × (Nat → Int32) => (wM h cA (nI n) hd fi un on may asd tx td kp ko ka tr pat pfr rhd rif rul prr prm u.1 u.2 nw ot ev od)) A) A) ([.ref (h 0), .int a, .int sme] : List Value).toArray s 0 0 A) (F0 m 32 ls []) := by
        intro z_3
        induction z_3 with
        | zero =>
          intro j32 hj32 best he32  rd_4 bb_5 H locs hP hD hS ls hl
          obtain rfl : sme.toNatClampNeg + 1 = j32 := by omega
          refine lv_iload hx hb dX3_explains_32 (lv_at hl 4 rfl) ?_
          refine lv_iload_n hx hb dX3_explains_34 rfl (lv_at hl 2 rfl) ?_
          refine lv_icmp_gt (tgt := 103) hx hb dX3_explains_35 (by decide) (fun _ => ?_) (fun hh_7 => absurd (sm_lt hsm) hh_7)
          refine lv_iload_n hx hb dX3_explains_103 rfl (lv_at hl 3 rfl) ?_
          exact rw_iret hx hb hr hS hlocks (rd_4, bb_5) (show s_X3_explains n hd fi un may on asd a sme = best from by (unfold s_X3_explains; (try dsimp only); (try rw [if_neg c_9_1]); (try rw [if_neg c_21_2]); (try rw [← he32]); (try dsimp only); first | done | with_reducible rfl)).symm hP hD dX3_explains_104
        | succ z_3 ih32 =>
          intro j32 hj32 best he32  rd_4 bb_5 H locs hP hD hS ls hl
          refine lv_iload hx hb dX3_explains_32 (lv_at hl 4 rfl) ?_
          refine lv_iload_n hx hb dX3_explains_34 rfl (lv_at hl 2 rfl) ?_
          refine lv_icmp_gt (tgt := 103) hx hb dX3_explains_35 (by decide) (fun hh_9 => absurd hh_9 (sm_nlt hsm (by omega))) (fun _ => ?_)
          refine lv_iload hx hb dX3_explains_38 (lv_at hl 4 rfl) ?_
          refine ro_i (D := D) (va_runS (As := [.int (nI j32)]) (rest := []) ⟨hx, hb, hml, hown, hts⟩ (c_X3_ones l D (nI j32)  _) (va_cwS 1 hts gX3_explains_X3_ones rfl rfl rfl (by decide +kernel) ⟨Nat.le_of_ble_eq_true rfl, Nat.le_of_ble_eq_true rfl⟩) ⟨cPre.blind, cPre.mk vP0 hKe vD0 hN⟩ rfl rfl hl.1 rfl (lv_room (Nat.le_of_ble_eq_true rfl)) dX3_explains_40 ⟨Nat.zero_le _, Nat.zero_le _⟩) hS hA (fun H locs hkp0 hS => ?_)
          replace hP := hkp0 _ hP
          refine lv_iload_n hx hb dX3_explains_43 rfl (lv_at hl 3 rfl) ?_
          refine lv_if_ge (tgt := 51) hx hb dX3_explains_44 (by decide) (fun c_44_10 => ?_) (fun c_44_10 => ?_)
          · refine lv_iload_n hx hb dX3_explains_51 rfl (lv_at hl 3 rfl) ?_
            refine ro_i (D := D) (va_runS (As := [.int best]) (rest := [.int (s_X3_ones (nI j32))]) ⟨hx, hb, hml, hown, hts⟩ (c_X3_ones l D best  _) (va_cwS 1 hts gX3_explains_X3_ones rfl rfl rfl (by decide +kernel) ⟨Nat.le_of_ble_eq_true rfl, Nat.le_of_ble_eq_true rfl⟩) ⟨cPre.blind, cPre.mk vP0 hKe vD0 hN⟩ rfl rfl hl.1 rfl (lv_room (Nat.le_of_ble_eq_true rfl)) dX3_explains_52 ⟨Nat.zero_le _, Nat.zero_le _⟩) hS hA (fun H locs hkp0 hS => ?_)
            replace hP := hkp0 _ hP
            refine lv_icmp_ge (tgt := 62) hx hb dX3_explains_55 (by decide) (fun c_55_11 => ?_) (fun c_55_11 => ?_)
            · refine lv_iconst (v := 0) hx hb dX3_explains_62 (by decide) ?_
              refine lv_istore (lv' := [(5, .int 0), (0, .ref (h 0)), (1, .int a), (2, .int sme), (3, .int best), (4, .int (nI j32))]) hx hb dX3_explains_63 hl (by decide) rfl (fun ls hl => ?_)
              refine lv_iload hx hb dX3_explains_65 (lv_at hl 5 rfl) ?_
              refine lv_iload_n hx hb dX3_explains_67 rfl (lv_at hl 3 rfl) ?_
              refine lv_iconst (v := (-1)) hx hb dX3_explains_68 (by decide) ?_
              refine lv_ixor hx hb dX3_explains_69 ?_
              refine lv_iand hx hb dX3_explains_70 ?_
              refine lv_if_ne (tgt := 97) hx hb dX3_explains_71 (by decide) (fun c_71_12 => ?_) (fun c_71_12 => ?_)
              · refine lv_iinc (v := nI (j32 + 1)) (lv' := [(4, .int (nI (j32 + 1))), (5, .int 0), (0, .ref (h 0)), (1, .int a), (2, .int sme), (3, .int best)]) hx hb dX3_explains_97 hl (k := 5) rfl (inc_nI j32) (by decide) rfl (fun ls hl => ?_)
                refine lv_goto (tgt := 32) hx hb dX3_explains_100 (by decide) ?_
                exact ih32 (j32 + 1) (by omega) best (itr_step he32 (by (unfold f_X3_explains_32; (try dsimp only); (try rw [if_pos c_44_10]); (try rw [if_pos c_55_11]); (try rw [if_neg c_71_12]); first | done | with_reducible rfl)))  rd_4 bb_5 _ _ hP hD hS _ (lv_sub hl [2, 3, 4, 5, 0] rfl)
              · refine lv_iload hx hb dX3_explains_74 (lv_at hl 0 rfl) ?_
                refine lv_if_eq (tgt := 97) hx hb dX3_explains_76 (by decide) (fun _ => ?_) (fun hh_14 => absurd (by decide) hh_14)
                refine lv_iinc (v := nI (j32 + 1)) (lv' := [(4, .int (nI (j32 + 1))), (5, .int 0), (0, .ref (h 0)), (1, .int a), (2, .int sme), (3, .int best)]) hx hb dX3_explains_97 hl (k := 5) rfl (inc_nI j32) (by decide) rfl (fun ls hl => ?_)
                refine lv_goto (tgt := 32) hx hb dX3_explains_100 (by decide) ?_
                exact ih32 (j32 + 1) (by omega) best (itr_step he32 (by (unfold f_X3_explains_32; (try dsimp only); (try rw [if_pos c_44_10]); (try rw [if_pos c_55_11]); (try rw [if_pos c_71_12]); first | done | with_reducible rfl)))  rd_4 bb_5 _ _ hP hD hS _ (lv_sub hl [2, 3, 4, 5, 0] rfl)
            · refine lv_iconst (v := 1) hx hb dX3_explains_58 (by decide) ?_
              refine lv_goto (tgt := 63) hx hb dX3_explains_59 (by decide) ?_
              refine lv_istore (lv' := [(5, .int 1), (0, .ref (h 0)), (1, .int a), (2, .int sme), (3, .int best), (4, .int (nI j32))]) hx hb dX3_explains_63 hl (by decide) rfl (fun ls hl => ?_)
              refine lv_iload hx hb dX3_explains_65 (lv_at hl 5 rfl) ?_
              refine lv_iload_n hx hb dX3_explains_67 rfl (lv_at hl 3 rfl) ?_
              refine lv_iconst (v := (-1)) hx hb dX3_explains_68 (by decide) ?_
              refine lv_ixor hx hb dX3_explains_69 ?_
              refine lv_iand hx hb dX3_explains_70 ?_
              refine lv_if_ne (tgt := 97) hx hb dX3_explains_71 (by decide) (fun c_71_15 => ?_) (fun c_71_15 => ?_)
              · refine lv_iinc (v := nI (j32 + 1)) (lv' := [(4, .int (nI (j32 + 1))), (5, .int 1), (0, .ref (h 0)), (1, .int a), (2, .int sme), (3, .int best)]) hx hb dX3_explains_97 hl (k := 5) rfl (inc_nI j32) (by decide) rfl (fun ls hl => ?_)
                refine lv_goto (tgt := 32) hx hb dX3_explains_100 (by decide) ?_
                exact ih32 (j32 + 1) (by omega) best (itr_step he32 (by (unfold f_X3_explains_32; (try dsimp only); (try rw [if_pos c_44_10]); (try rw [if_neg c_55_11]); (try rw [if_neg c_71_15]); first | done | with_reducible rfl)))  rd_4 bb_5 _ _ hP hD hS _ (lv_sub hl [2, 3, 4, 5, 0] rfl)
              · refine lv_iload hx hb dX3_explains_74 (lv_at hl 0 rfl) ?_
                refine lv_if_eq (tgt := 97) hx hb dX3_explains_76 (by decide) (fun hh_17 => absurd hh_17 (by decide)) (fun _ => ?_)
                refine lv_aload_n hx hb dX3_explains_79 rfl (lv_at hl 1 rfl) ?_
                refine lv_iload_n hx hb dX3_explains_80 rfl (lv_at hl 2 rfl) ?_
                refine lv_aload_n hx hb dX3_explains_81 rfl (lv_at hl 1 rfl) ?_
                refine va_get (D := D) (ci := 3) (v := .int asd) (C := RX3) (T := TX3) (N := 26) hx hb hts hinX3 hown hK hP 0 rfl rfl 6 (by decide) (hts (.fieldLink RX3 120 "HoldUnlessModel" "assumed" "I") (by decide +kernel)) (fun _ h9 => h9) rfl dX3_explains_82 ?_
                refine lv_iload hx hb dX3_explains_85 (lv_at hl 5 rfl) ?_
                refine lv_ior hx hb dX3_explains_87 ?_
                have hFc := va_free (wc := (wM h cA (nI n) hd fi un on may asd tx td kp ko ka tr pat pfr rhd rif rul prr prm rd_4 bb_5 nw ot ev od)) hD hS hA [0, 1, 2, 3, 4, 5, 6, 7, 8, 9, 10, 11, 12, 13, 14, 15, 16] rfl
                refine rw_i (D := D) (wc := (wM h cA (nI n) hd fi un on may asd tx td kp ko ka tr pat pfr rhd rif rul prr prm rd_4 bb_5 nw ot ev od)) (va_runV (As := [.int a, .int (asd ||| (nI j32))]) (rest := []) ⟨hx, hb, hml, hown, hts⟩ (c_X3_isInSome l D h cA n hd fi un on may asd tx td kp ko ka tr pat pfr rhd rif rul prr prm rd_4 bb_5 nw ot ev od a (asd ||| (nI j32)) (by first | assumption | omega) hhd _) (cwV 2 hts gX3_explains_X3_isInSome rfl rfl rfl (by decide +kernel) ⟨Nat.le_of_ble_eq_true rfl, Nat.le_of_ble_eq_true rfl⟩) ⟨cPre.blind, va_recv hK hP (ci := 3) (q0 := 0) rfl rfl, cPre.mk hP hK hD hN⟩ rfl rfl hl.1 rfl (lv_room (Nat.le_of_ble_eq_true rfl)) dX3_explains_88 ⟨Nat.zero_le _, Nat.zero_le _⟩) hS hFc (fun rv_20 u H1 locs hw_21 hP1 hD1 hk1 hS => ?_)
                obtain ⟨rdv_18, bbv_19⟩ := u
                try dsimp only at hw_21
                have hP : va_P D vwCl (wM h cA (nI n) hd fi un on may asd tx td kp ko ka tr pat pfr rhd rif rul prr prm rdv_18 bbv_19 nw ot ev od) H1 := hP1
                have hD : va_D A (wM h cA (nI n) hd fi un on may asd tx td kp ko ka tr pat pfr rhd rif rul prr prm rdv_18 bbv_19 nw ot ev od) := hD1.weaken (fun k q hk h => hFc _ h)
                clear hP1 hD1 hFc hk1
                generalize H1 = H at hP hS ⊢
                subst hw_21
                refine lv_if_eq (tgt := 97) hx hb dX3_explains_91 (by decide) (fun c_91_22 => ?_) (fun c_91_22 => ?_)
                · refine lv_iinc (v := nI (j32 + 1)) (lv' := [(4, .int (nI (j32 + 1))), (5, .int 1), (0, .ref (h 0)), (1, .int a), (2, .int sme), (3, .int best)]) hx hb dX3_explains_97 hl (k := 5) rfl (inc_nI j32) (by decide) rfl (fun ls hl => ?_)
                  refine lv_goto (tgt := 32) hx hb dX3_explains_100 (by decide) ?_
                  exact ih32 (j32 + 1) (by omega) best (itr_step he32 (by (unfold f_X3_explains_32; (try dsimp only); (try rw [if_pos c_44_10]); (try rw [if_neg c_55_11]); (try rw [if_pos c_71_15]); (try rw [if_pos c_91_22]); first | done | with_reducible rfl)))  rdv_18 bbv_19 _ _ hP hD hS _ (lv_sub hl [2, 3, 4, 5, 0] rfl)
                · refine lv_iload hx hb dX3_explains_94 (lv_at hl 5 rfl) ?_
                  refine lv_istore_n (lv' := [(3, .int (nI j32)), (5, .int 1), (0, .ref (h 0)), (1, .int a), (2, .int sme), (4, .int (nI j32))]) hx hb dX3_explains_96 rfl hl (by decide) rfl (fun ls hl => ?_)
                  refine lv_iinc (v := nI (j32 + 1)) (lv' := [(4, .int (nI (j32 + 1))), (3, .int (nI j32)), (5, .int 1), (0, .ref (h 0)), (1, .int a), (2, .int sme)]) hx hb dX3_explains_97 hl (k := 5) rfl (inc_nI j32) (by decide) rfl (fun ls hl => ?_)
                  refine lv_goto (tgt := 32) hx hb dX3_explains_100 (by decide) ?_
                  exact ih32 (j32 + 1) (by omega) (nI j32) (itr_step he32 (by (unfold f_X3_explains_32; (try dsimp only); (try rw [if_pos c_44_10]); (try rw [if_neg c_55_11]); (try rw [if_pos c_71_15]); (try rw [if_neg c_91_22]); first | done | with_reducible rfl)))  rdv_18 bbv_19 _ _ hP hD hS _ (lv_sub hl [3, 4, 5, 1, 0] rfl)
          · refine lv_iconst (v := 4) hx hb dX3_explains_47 (by decide) ?_
            refine lv_goto (tgt := 55) hx hb dX3_explains_48 (by decide) ?_
            refine lv_icmp_ge (tgt := 62) hx hb dX3_explains_55 (by decide) (fun c_55_23 => ?_) (fun c_55_23 => ?_)
            · refine lv_iconst (v := 0) hx hb dX3_explains_62 (by decide) ?_
              refine lv_istore (lv' := [(5, .int 0), (0, .ref (h 0)), (1, .int a), (2, .int sme), (3, .int best), (4, .int (nI j32))]) hx hb dX3_explains_63 hl (by decide) rfl (fun ls hl => ?_)
              refine lv_iload hx hb dX3_explains_65 (lv_at hl 5 rfl) ?_
              refine lv_iload_n hx hb dX3_explains_67 rfl (lv_at hl 3 rfl) ?_
              refine lv_iconst (v := (-1)) hx hb dX3_explains_68 (by decide) ?_
              refine lv_ixor hx hb dX3_explains_69 ?_
              refine lv_iand hx hb dX3_explains_70 ?_
              refine lv_if_ne (tgt := 97) hx hb dX3_explains_71 (by decide) (fun c_71_24 => ?_) (fun c_71_24 => ?_)
              · refine lv_iinc (v := nI (j32 + 1)) (lv' := [(4, .int (nI (j32 + 1))), (5, .int 0), (0, .ref (h 0)), (1, .int a), (2, .int sme), (3, .int best)]) hx hb dX3_explains_97 hl (k := 5) rfl (inc_nI j32) (by decide) rfl (fun ls hl => ?_)
                refine lv_goto (tgt := 32) hx hb dX3_explains_100 (by decide) ?_
                exact ih32 (j32 + 1) (by omega) best (itr_step he32 (by (unfold f_X3_explains_32; (try dsimp only); (try rw [if_neg c_44_10]); (try rw [if_pos c_55_23]); (try rw [if_neg c_71_24]); first | done | with_reducible rfl)))  rd_4 bb_5 _ _ hP hD hS _ (lv_sub hl [2, 3, 4, 5, 0] rfl)
              · refine lv_iload hx hb dX3_explains_74 (lv_at hl 0 rfl) ?_
                refine lv_if_eq (tgt := 97) hx hb dX3_explains_76 (by decide) (fun _ => ?_) (fun hh_26 => absurd (by decide) hh_26)
                refine lv_iinc (v := nI (j32 + 1)) (lv' := [(4, .int (nI (j32 + 1))), (5, .int 0), (0, .ref (h 0)), (1, .int a), (2, .int sme), (3, .int best)]) hx hb dX3_explains_97 hl (k := 5) rfl (inc_nI j32) (by decide) rfl (fun ls hl => ?_)
                refine lv_goto (tgt := 32) hx hb dX3_explains_100 (by decide) ?_
                exact ih32 (j32 + 1) (by omega) best (itr_step he32 (by (unfold f_X3_explains_32; (try dsimp only); (try rw [if_neg c_44_10]); (try rw [if_pos c_55_23]); (try rw [if_pos c_71_24]); first | done | with_reducible rfl)))  rd_4 bb_5 _ _ hP hD hS _ (lv_sub hl [2, 3, 4, 5, 0] rfl)
            · refine lv_iconst (v := 1) hx hb dX3_explains_58 (by decide) ?_
              refine lv_goto (tgt := 63) hx hb dX3_explains_59 (by decide) ?_
              refine lv_istore (lv' := [(5, .int 1), (0, .ref (h 0)), (1, .int a), (2, .int sme), (3, .int best), (4, .int (nI j32))]) hx hb dX3_explains_63 hl (by decide) rfl (fun ls hl => ?_)
              refine lv_iload hx hb dX3_explains_65 (lv_at hl 5 rfl) ?_
              refine lv_iload_n hx hb dX3_explains_67 rfl (lv_at hl 3 rfl) ?_
              refine lv_iconst (v := (-1)) hx hb dX3_explains_68 (by decide) ?_
              refine lv_ixor hx hb dX3_explains_69 ?_
              refine lv_iand hx hb dX3_explains_70 ?_
              refine lv_if_ne (tgt := 97) hx hb dX3_explains_71 (by decide) (fun c_71_27 => ?_) (fun c_71_27 => ?_)
              · refine lv_iinc (v := nI (j32 + 1)) (lv' := [(4, .int (nI (j32 + 1))), (5, .int 1), (0, .ref (h 0)), (1, .int a), (2, .int sme), (3, .int best)]) hx hb dX3_explains_97 hl (k := 5) rfl (inc_nI j32) (by decide) rfl (fun ls hl => ?_)
                refine lv_goto (tgt := 32) hx hb dX3_explains_100 (by decide) ?_
                exact ih32 (j32 + 1) (by omega) best (itr_step he32 (by (unfold f_X3_explains_32; (try dsimp only); (try rw [if_neg c_44_10]); (try rw [if_neg c_55_23]); (try rw [if_neg c_71_27]); first | done | with_reducible rfl)))  rd_4 bb_5 _ _ hP hD hS _ (lv_sub hl [2, 3, 4, 5, 0] rfl)
              · refine lv_iload hx hb dX3_explains_74 (lv_at hl 0 rfl) ?_
                refine lv_if_eq (tgt := 97) hx hb dX3_explains_76 (by decide) (fun hh_29 => absurd hh_29 (by decide)) (fun _ => ?_)
                refine lv_aload_n hx hb dX3_explains_79 rfl (lv_at hl 1 rfl) ?_
                refine lv_iload_n hx hb dX3_explains_80 rfl (lv_at hl 2 rfl) ?_
                refine lv_aload_n hx hb dX3_explains_81 rfl (lv_at hl 1 rfl) ?_
                refine va_get (D := D) (ci := 3) (v := .int asd) (C := RX3) (T := TX3) (N := 26) hx hb hts hinX3 hown hK hP 0 rfl rfl 6 (by decide) (hts (.fieldLink RX3 120 "HoldUnlessModel" "assumed" "I") (by decide +kernel)) (fun _ h9 => h9) rfl dX3_explains_82 ?_
                refine lv_iload hx hb dX3_explains_85 (lv_at hl 5 rfl) ?_
                refine lv_ior hx hb dX3_explains_87 ?_
                have hFc := va_free (wc := (wM h cA (nI n) hd fi un on may asd tx td kp ko ka tr pat pfr rhd rif rul prr prm rd_4 bb_5 nw ot ev od)) hD hS hA [0, 1, 2, 3, 4, 5, 6, 7, 8, 9, 10, 11, 12, 13, 14, 15, 16] rfl
                refine rw_i (D := D) (wc := (wM h cA (nI n) hd fi un on may asd tx td kp ko ka tr pat pfr rhd rif rul prr prm rd_4 bb_5 nw ot ev od)) (va_runV (As := [.int a, .int (asd ||| (nI j32))]) (rest := []) ⟨hx, hb, hml, hown, hts⟩ (c_X3_isInSome l D h cA n hd fi un on may asd tx td kp ko ka tr pat pfr rhd rif rul prr prm rd_4 bb_5 nw ot ev od a (asd ||| (nI j32)) (by first | assumption | omega) hhd _) (cwV 2 hts gX3_explains_X3_isInSome rfl rfl rfl (by decide +kernel) ⟨Nat.le_of_ble_eq_true rfl, Nat.le_of_ble_eq_true rfl⟩) ⟨cPre.blind, va_recv hK hP (ci := 3) (q0 := 0) rfl rfl, cPre.mk hP hK hD hN⟩ rfl rfl hl.1 rfl (lv_room (Nat.le_of_ble_eq_true rfl)) dX3_explains_88 ⟨Nat.zero_le _, Nat.zero_le _⟩) hS hFc (fun rv_32 u H1 locs hw_33 hP1 hD1 hk1 hS => ?_)
                obtain ⟨rdv_30, bbv_31⟩ := u
                try dsimp only at hw_33
                have hP : va_P D vwCl (wM h cA (nI n) hd fi un on may asd tx td kp ko ka tr pat pfr rhd rif rul prr prm rdv_30 bbv_31 nw ot ev od) H1 := hP1
                have hD : va_D A (wM h cA (nI n) hd fi un on may asd tx td kp ko ka tr pat pfr rhd rif rul prr prm rdv_30 bbv_31 nw ot ev od) := hD1.weaken (fun k q hk h => hFc _ h)
                clear hP1 hD1 hFc hk1
                generalize H1 = H at hP hS ⊢
                subst hw_33
                refine lv_if_eq (tgt := 97) hx hb dX3_explains_91 (by decide) (fun c_91_34 => ?_) (fun c_91_34 => ?_)
                · refine lv_iinc (v := nI (j32 + 1)) (lv' := [(4, .int (nI (j32 + 1))), (5, .int 1), (0, .ref (h 0)), (1, .int a), (2, .int sme), (3, .int best)]) hx hb dX3_explains_97 hl (k := 5) rfl (inc_nI j32) (by decide) rfl (fun ls hl => ?_)
                  refine lv_goto (tgt := 32) hx hb dX3_explains_100 (by decide) ?_
                  exact ih32 (j32 + 1) (by omega) best (itr_step he32 (by (unfold f_X3_explains_32; (try dsimp only); (try rw [if_neg c_44_10]); (try rw [if_neg c_55_23]); (try rw [if_pos c_71_27]); (try rw [if_pos c_91_34]); first | done | with_reducible rfl)))  rdv_30 bbv_31 _ _ hP hD hS _ (lv_sub hl [2, 3, 4, 5, 0] rfl)
                · refine lv_iload hx hb dX3_explains_94 (lv_at hl 5 rfl) ?_
                  refine lv_istore_n (lv' := [(3, .int (nI j32)), (5, .int 1), (0, .ref (h 0)), (1, .int a), (2, .int sme), (4, .int (nI j32))]) hx hb dX3_explains_96 rfl hl (by decide) rfl (fun ls hl => ?_)
                  refine lv_iinc (v := nI (j32 + 1)) (lv' := [(4, .int (nI (j32 + 1))), (3, .int (nI j32)), (5, .int 1), (0, .ref (h 0)), (1, .int a), (2, .int sme)]) hx hb dX3_explains_97 hl (k := 5) rfl (inc_nI j32) (by decide) rfl (fun ls hl => ?_)
                  refine lv_goto (tgt := 32) hx hb dX3_explains_100 (by decide) ?_
                  exact ih32 (j32 + 1) (by omega) (nI j32) (itr_step he32 (by (unfold f_X3_explains_32; (try dsimp only); (try rw [if_neg c_44_10]); (try rw [if_neg c_55_23]); (try rw [if_pos c_71_27]); (try rw [if_neg c_91_34]); first | done | with_reducible rfl)))  rdv_30 bbv_31 _ _ hP hD hS _ (lv_sub hl [3, 4, 5, 1, 0] rfl)
      exact lp32_5 (sme.toNatClampNeg + 1) 0 (by omega) (-9) (itr_zero _ _).symm  rd bb _ _ hP hD hS _ (lv_sub hl [2, 3, 4, 1, 0] rfl)
    · refine lv_iconst (v := (-1)) hx hb dX3_explains_24 (by decide) ?_
      exact rw_iret hx hb hr hS hlocks (rd, bb) (show s_X3_explains n hd fi un may on asd a sme = (-1) from by (unfold s_X3_explains; (try dsimp only); (try rw [if_neg c_9_1]); (try rw [if_pos c_21_2]); first | done | with_reducible rfl)).symm hP hD dX3_explains_25

def f_X3_isAny_2 (n : Nat) (hd : Nat → Int32) (fi : Nat → Int32) (un : Nat → Int32) (may : Int32) (asd : Int32) (sme : Int32) (j2 : Nat) (st : Unit) : Int32 ⊕ (Unit) := (if (s_X3_doesStand n hd fi un may (nI j2) sme asd) = 0 then (.inr ()) else (.inl 1))
def s_X3_isAny (n : Nat) (hd : Nat → Int32) (fi : Nat → Int32) (un : Nat → Int32) (may : Int32) (asd : Int32) (sme : Int32) : Int32 := (onE (itE (f_X3_isAny_2 n hd fi un may asd sme) () 256) (fun st => match st with | () => 0))
set_option maxHeartbeats 4000000 in
set_option maxRecDepth 100000 in
theorem c_X3_isAny (l : Launch) (D : va_G) (h : Nat → Nat) (cA : Nat → ClassId) (n : Nat) (hd : Nat → Int32) (fi : Nat → Int32) (un : Nat → Int32) (on : Int32) (may : Int32) (asd : Int32) (tx : Nat → Int32) (td : Int32) (kp : Nat → Int32) (ko : Nat → Int32) (ka : Nat → Int32) (tr : Int64) (pat : Int32) (pfr : Int32) (rhd : Nat → Int32) (rif : Nat → Int32) (rul : Nat → Int32) (prr : Int32) (prm : Int32) (rd : Nat → Int32) (bb : Nat → Int32) (nw : Nat → Int32) (ot : Nat → Int32) (ev : Nat → Int32) (od : Nat → Int32) (sme : Int32) (hn : n ≤ 10) (hhd : ∀ k : Nat, k < n → ¬ hd k = 8 → vp_in (hd k) 8) (sz : Nat) : Met l yX3_isAny wsX3_isAny ({ frames := 3, cells := 0, slots := 0, locals := 72 }) (va_Pc [.ref (h 0), .int sme] (cPre D (tM h cA) (wM h cA (nI n) hd fi un on may asd tx td kp ko ka tr pat pfr rhd rif rul prr prm rd bb nw ot ev od) sz)) (va_Qi (fun (r : Int32) (u : (Nat → Int32) × (Nat → Int32)) => r = s_X3_isAny n hd fi un may asd sme) (rwB D (fun u : (Nat → Int32) × (Nat → Int32) => (wM h cA (nI n) hd fi un on may asd tx td kp ko ka tr pat pfr rhd rif rul prr prm u.1 u.2 nw ot ev od)) (va_A (wM h cA (nI n) hd fi un on may asd tx td kp ko ka tr pat pfr rhd rif rul prr prm rd bb nw ot ev od) sz)) (va_A (wM h cA (nI n) hd fi un on may asd tx td kp ko ka tr pat pfr rhd rif rul prr prm rd bb nw ot ev od) sz)) 0 0 (va_A (wM h cA (nI n) hd fi un on may asd tx td kp ko ka tr pat pfr rhd rif rul prr prm rd bb nw ot ev od) sz) := by
  refine Met.ofW (cc := cX3_isAny) (maxL := 3) (ret := (some .boolean)) (by decide) rfl ?_
  intro p e s m args below meth c s₁ B hml hv
  obtain ⟨rfl, hsz, hP, hK, hD, hN⟩ := hv
  have hx := B.exec
  have hb := B.bytes
  have hr := B.returns
  have hts := atoms_spec (ws := wsX3_isAny) B.pre
  have hown : s.vm.findClass RX3 = some m.cls := findClass_of_methodNamed B.named
  have hlocks := B.notSynchronized
  have hinX3 : ∀ w ∈ wsX30, w ∈ wsX3_isAny := fun w h => List.mem_cons_of_mem _ (List.mem_append_right _ h)
  subst hsz
  replace hD := hD.self (sz := s.heap.size)
  generalize hAe : va_A (wM h cA (nI n) hd fi un on may asd tx td kp ko ka tr pat pfr rhd rif rul prr prm rd bb nw ot ev od) s.heap.size = A at hD ⊢
  have hA : ∀ q : Nat, s.heap.size ≤ q → A q := fun q h => by rw [← hAe]; exact Or.inr h
  have hS : va_S A s.heap s.heap [] := va_S.rf
  have hl := lv_entry ([.ref (h 0), .int sme]) (n := 3) (Nat.le_of_ble_eq_true rfl)
  rw [lg_entry_eq]
  generalize (lg_sl ([.ref (h 0), .int sme]) ++ List.replicate (3 - (lg_sl ([.ref (h 0), .int sme])).length) Slot.unset).toArray = ls at hl ⊢
  replace hl : lv_has ls 3 [(0, .ref (h 0)), (1, .int sme)] := hl
  have hKe := hK.sub (tys' := []) [] rfl
  refine lv_iconst (v := 0) hx hb dX3_isAny_0 (by decide) ?_
  refine lv_istore_n (lv' := [(2, .int 0), (0, .ref (h 0)), (1, .int sme)]) hx hb dX3_isAny_1 rfl hl (by decide) rfl (fun ls hl => ?_)
  have lp2_3 : ∀ (z_1 j2 : Nat), j2 + z_1 = 256 → ∀ (_ : Unit), itE (f_X3_isAny_2 n hd fi un may asd sme) () j2 = .inr () → ∀ (rd_2 : Nat → Int32) (bb_3 : Nat → Int32) (H : Heap) (locs : List Loc), va_P D vwCl (wM h cA (nI n) hd fi un on may asd tx td kp ko ka tr pat pfr rhd rif rul prr prm rd_2 bb_3 nw ot ev od) H → va_D A (wM h cA (nI n) hd fi un on may asd tx td kp ko ka tr pat pfr rhd rif rul prr prm rd_2 bb_3 nw ot ev od) → va_S A s.heap H locs → ∀ ls : Array Slot, lv_has ls 3 [(0, .ref (h 0)), (1, .int sme), (2, .int (nI j2))] → W p l e (headSpec wsX3_isAny ({ frames := 3, cells := 0, slots := 0, locals := 72 })).room s m ([.ref (h 0), .int sme] : List Value).toArray below meth c H locs 0 0 (MQ below (va_Qi (fun (r : Int32) (u : (Nat → Int32) × (Nat → Int32)) => r = s_X3_isAny n hd fi un may asd sme) (rwB D (fun u : (Nat → Int32) × (Nat → Int32) => (wM h cA (nI n) hd fi un on may asd tx td kp ko ka tr pat pfr rhd rif rul prr prm u.1 u.2 nw ot ev od)) A) A) ([.ref (h 0), .int sme] : List Value).toArray s 0 0 A) (F0 m 2 ls []) := by
    intro z_1
    induction z_1 with
    | zero =>
      intro j2 hj2 _ he2  rd_2 bb_3 H locs hP hD hS ls hl
      obtain rfl : 256 = j2 := by omega
      refine lv_iload_n hx hb dX3_isAny_2 rfl (lv_at hl 2 rfl) ?_
      refine lv_sipush (v := 255) hx hb dX3_isAny_3 (by decide) ?_
      refine lv_icmp_gt (tgt := 30) hx hb dX3_isAny_6 (by decide) (fun _ => ?_) (fun hh_5 => absurd (nI_lt (a := 255) (b := 256) (by omega) (by omega)) hh_5)
      refine lv_iconst (v := 0) hx hb dX3_isAny_30 (by decide) ?_
      exact rw_zret hx hb hr hS hlocks (rd_2, bb_3) (show s_X3_isAny n hd fi un may asd sme = 0 from by (unfold s_X3_isAny; (try dsimp only); (try rw [he2]); (try dsimp only [onE]); first | done | with_reducible rfl)).symm hP hD (by decide +kernel) dX3_isAny_31
    | succ z_1 ih2 =>
      intro j2 hj2 _ he2  rd_2 bb_3 H locs hP hD hS ls hl
      refine lv_iload_n hx hb dX3_isAny_2 rfl (lv_at hl 2 rfl) ?_
      refine lv_sipush (v := 255) hx hb dX3_isAny_3 (by decide) ?_
      refine lv_icmp_gt (tgt := 30) hx hb dX3_isAny_6 (by decide) (fun hh_7 => absurd hh_7 (nI_nlt (a := 255) (b := j2) (by omega) (by omega))) (fun _ => ?_)
      refine lv_aload_n hx hb dX3_isAny_9 rfl (lv_at hl 0 rfl) ?_
      refine lv_iload_n hx hb dX3_isAny_10 rfl (lv_at hl 2 rfl) ?_
      refine lv_iload_n hx hb dX3_isAny_11 rfl (lv_at hl 1 rfl) ?_
      refine lv_aload_n hx hb dX3_isAny_12 rfl (lv_at hl 0 rfl) ?_
      refine va_get (D := D) (ci := 3) (v := .int asd) (C := RX3) (T := TX3) (N := 26) hx hb hts hinX3 hown hK hP 0 rfl rfl 6 (by decide) (hts (.fieldLink RX3 120 "HoldUnlessModel" "assumed" "I") (by decide +kernel)) (fun _ h9 => h9) rfl dX3_isAny_13 ?_
      have hFc := va_free (wc := (wM h cA (nI n) hd fi un on may asd tx td kp ko ka tr pat pfr rhd rif rul prr prm rd_2 bb_3 nw ot ev od)) hD hS hA [0, 1, 2, 3, 4, 5, 6, 7, 8, 9, 10, 11, 12, 13, 14, 15, 16] rfl
      refine rw_i (D := D) (wc := (wM h cA (nI n) hd fi un on may asd tx td kp ko ka tr pat pfr rhd rif rul prr prm rd_2 bb_3 nw ot ev od)) (va_runV (As := [.int (nI j2), .int sme, .int asd]) (rest := []) ⟨hx, hb, hml, hown, hts⟩ (c_X3_doesStand l D h cA n hd fi un on may asd tx td kp ko ka tr pat pfr rhd rif rul prr prm rd_2 bb_3 nw ot ev od (nI j2) sme asd (by first | assumption | omega) hhd _) (cwV 3 hts gX3_isAny_X3_doesStand rfl rfl rfl (by decide +kernel) ⟨Nat.le_of_ble_eq_true rfl, Nat.le_of_ble_eq_true rfl⟩) ⟨cPre.blind, va_recv hK hP (ci := 3) (q0 := 0) rfl rfl, cPre.mk hP hK hD hN⟩ rfl rfl hl.1 rfl (lv_room (Nat.le_of_ble_eq_true rfl)) dX3_isAny_16 ⟨Nat.zero_le _, Nat.zero_le _⟩) hS hFc (fun rv_10 u H1 locs hw_11 hP1 hD1 hk1 hS => ?_)
      obtain ⟨rdv_8, bbv_9⟩ := u
      try dsimp only at hw_11
      have hP : va_P D vwCl (wM h cA (nI n) hd fi un on may asd tx td kp ko ka tr pat pfr rhd rif rul prr prm rdv_8 bbv_9 nw ot ev od) H1 := hP1
      have hD : va_D A (wM h cA (nI n) hd fi un on may asd tx td kp ko ka tr pat pfr rhd rif rul prr prm rdv_8 bbv_9 nw ot ev od) := hD1.weaken (fun k q hk h => hFc _ h)
      clear hP1 hD1 hFc hk1
      generalize H1 = H at hP hS ⊢
      subst hw_11
      refine lv_if_eq (tgt := 24) hx hb dX3_isAny_19 (by decide) (fun c_19_12 => ?_) (fun c_19_12 => ?_)
      · refine lv_iinc (v := nI (j2 + 1)) (lv' := [(2, .int (nI (j2 + 1))), (0, .ref (h 0)), (1, .int sme)]) hx hb dX3_isAny_24 hl (k := 2) rfl (inc_nI j2) (by decide) rfl (fun ls hl => ?_)
        refine lv_goto (tgt := 2) hx hb dX3_isAny_27 (by decide) ?_
        exact ih2 (j2 + 1) (by omega) () (itE_succ he2 (by (unfold f_X3_isAny_2; (try dsimp only); (try rw [if_pos c_19_12]); first | done | with_reducible rfl)))  rdv_8 bbv_9 _ _ hP hD hS _ (lv_sub hl [1, 2, 0] rfl)
      · refine lv_iconst (v := 1) hx hb dX3_isAny_22 (by decide) ?_
        have hs_13 : itE (f_X3_isAny_2 n hd fi un may asd sme) () (j2 + 1) = (.inl 1) := itE_succ he2 (by (unfold f_X3_isAny_2; (try dsimp only); (try rw [if_neg c_19_12]); first | done | with_reducible rfl))
        have hn_14 := itE_stop hs_13 256 (by omega)
        exact rw_zret hx hb hr hS hlocks (rdv_8, bbv_9) (show s_X3_isAny n hd fi un may asd sme = 1 from by (unfold s_X3_isAny; (try dsimp only); (try rw [hn_14]); (try dsimp only [onE]); first | done | with_reducible rfl)).symm hP hD (by decide +kernel) dX3_isAny_23
  exact lp2_3 256 0 (by omega) () (itE_zero _ _)  rd bb _ _ hP hD hS _ (lv_sub hl [1, 2, 0] rfl)

def f_X3_givesUp_5 (n : Nat) (hd : Nat → Int32) (fi : Nat → Int32) (un : Nat → Int32) (may : Int32) (on : Int32) (asd : Int32) (j5 : Nat) (st : Int32) : Int32 := match st with | best => (if 0 ≤ best then (if (s_X3_ones best) ≤ (s_X3_ones (nI j5)) then (if ((nI j5) &&& (on ^^^ (-1))) = 0 then best else best) else (if ((nI j5) &&& (on ^^^ (-1))) = 0 then (if (s_X3_isAny n hd fi un may asd (on &&& ((nI j5) ^^^ (-1)))) = 0 then best else nI j5) else best)) else (if 4 ≤ (s_X3_ones (nI j5)) then (if ((nI j5) &&& (on ^^^ (-1))) = 0 then best else best) else (if ((nI j5) &&& (on ^^^ (-1))) = 0 then (if (s_X3_isAny n hd fi un may asd (on &&& ((nI j5) ^^^ (-1)))) = 0 then best else nI j5) else best)))
def s_X3_givesUp (n : Nat) (hd : Nat → Int32) (fi : Nat → Int32) (un : Nat → Int32) (may : Int32) (on : Int32) (asd : Int32) : Int32 := (match itr (f_X3_givesUp_5 n hd fi un may on asd) (-9) (on.toNatClampNeg + 1) with | best => best)
set_option maxHeartbeats 4000000 in
set_option maxRecDepth 100000 in
theorem c_X3_givesUp (l : Launch) (D : va_G) (h : Nat → Nat) (cA : Nat → ClassId) (n : Nat) (hd : Nat → Int32) (fi : Nat → Int32) (un : Nat → Int32) (on : Int32) (may : Int32) (asd : Int32) (tx : Nat → Int32) (td : Int32) (kp : Nat → Int32) (ko : Nat → Int32) (ka : Nat → Int32) (tr : Int64) (pat : Int32) (pfr : Int32) (rhd : Nat → Int32) (rif : Nat → Int32) (rul : Nat → Int32) (prr : Int32) (prm : Int32) (rd : Nat → Int32) (bb : Nat → Int32) (nw : Nat → Int32) (ot : Nat → Int32) (ev : Nat → Int32) (od : Nat → Int32) (hn : n ≤ 10) (hhd : ∀ k : Nat, k < n → ¬ hd k = 8 → vp_in (hd k) 8) (hon : vp_in on 1024) (sz : Nat) : Met l yX3_givesUp wsX3_givesUp ({ frames := 4, cells := 0, slots := 0, locals := 94 }) (va_Pc [.ref (h 0)] (cPre D (tM h cA) (wM h cA (nI n) hd fi un on may asd tx td kp ko ka tr pat pfr rhd rif rul prr prm rd bb nw ot ev od) sz)) (va_Qi (fun (r : Int32) (u : (Nat → Int32) × (Nat → Int32)) => r = s_X3_givesUp n hd fi un may on asd) (rwB D (fun u : (Nat → Int32) × (Nat → Int32) => (wM h cA (nI n) hd fi un on may asd tx td kp ko ka tr pat pfr rhd rif rul prr prm u.1 u.2 nw ot ev od)) (va_A (wM h cA (nI n) hd fi un on may asd tx td kp ko ka tr pat pfr rhd rif rul prr prm rd bb nw ot ev od) sz)) (va_A (wM h cA (nI n) hd fi un on may asd tx td kp ko ka tr pat pfr rhd rif rul prr prm rd bb nw ot ev od) sz)) 0 0 (va_A (wM h cA (nI n) hd fi un on may asd tx td kp ko ka tr pat pfr rhd rif rul prr prm rd bb nw ot ev od) sz) := by
  refine Met.ofW (cc := cX3_givesUp) (maxL := 4) (ret := (some .int)) (by decide) rfl ?_
  intro p e s m args below meth c s₁ B hml hv
  obtain ⟨rfl, hsz, hP, hK, hD, hN⟩ := hv
  have hx := B.exec
  have hb := B.bytes
  have hr := B.returns
  have hts := atoms_spec (ws := wsX3_givesUp) B.pre
  have hown : s.vm.findClass RX3 = some m.cls := findClass_of_methodNamed B.named
  have hlocks := B.notSynchronized
  have hinX3 : ∀ w ∈ wsX30, w ∈ wsX3_givesUp := fun w h => List.mem_cons_of_mem _ (List.mem_append_right _ h)
  subst hsz
  replace hD := hD.self (sz := s.heap.size)
  generalize hAe : va_A (wM h cA (nI n) hd fi un on may asd tx td kp ko ka tr pat pfr rhd rif rul prr prm rd bb nw ot ev od) s.heap.size = A at hD ⊢
  have hA : ∀ q : Nat, s.heap.size ≤ q → A q := fun q h => by rw [← hAe]; exact Or.inr h
  have hS : va_S A s.heap s.heap [] := va_S.rf
  have hl := lv_entry ([.ref (h 0)]) (n := 4) (Nat.le_of_ble_eq_true rfl)
  rw [lg_entry_eq]
  generalize (lg_sl ([.ref (h 0)]) ++ List.replicate (4 - (lg_sl ([.ref (h 0)])).length) Slot.unset).toArray = ls at hl ⊢
  replace hl : lv_has ls 4 [(0, .ref (h 0))] := hl
  have hKe := hK.sub (tys' := []) [] rfl
  have hsm : sm_ok on := sm_of hon (by decide)
  refine lv_bipush (v := (-9)) hx hb dX3_givesUp_0 (by decide) ?_
  refine lv_istore_n (lv' := [(1, .int (-9)), (0, .ref (h 0))]) hx hb dX3_givesUp_2 rfl hl (by decide) rfl (fun ls hl => ?_)
  refine lv_iconst (v := 0) hx hb dX3_givesUp_3 (by decide) ?_
  refine lv_istore_n (lv' := [(2, .int 0), (1, .int (-9)), (0, .ref (h 0))]) hx hb dX3_givesUp_4 rfl hl (by decide) rfl (fun ls hl => ?_)
  have lp5_3 : ∀ (z_1 j5 : Nat), j5 + z_1 = on.toNatClampNeg + 1 → ∀ (best : Int32), best = itr (f_X3_givesUp_5 n hd fi un may on asd) (-9) j5 → ∀ (rd_2 : Nat → Int32) (bb_3 : Nat → Int32) (H : Heap) (locs : List Loc), va_P D vwCl (wM h cA (nI n) hd fi un on may asd tx td kp ko ka tr pat pfr rhd rif rul prr prm rd_2 bb_3 nw ot ev od) H → va_D A (wM h cA (nI n) hd fi un on may asd tx td kp ko ka tr pat pfr rhd rif rul prr prm rd_2 bb_3 nw ot ev od) → va_S A s.heap H locs → ∀ ls : Array Slot, lv_has ls 4 [(0, .ref (h 0)), (1, .int best), (2, .int (nI j5))] → W p l e (headSpec wsX3_givesUp ({ frames := 4, cells := 0, slots := 0, locals := 94 })).room s m ([.ref (h 0)] : List Value).toArray below meth c H locs 0 0 (MQ below (va_Qi (fun (r : Int32) (u : (Nat → Int32) × (Nat → Int32)) => r = s_X3_givesUp n hd fi un may on asd) (rwB D (fun u : (Nat → Int32) × (Nat → Int32) => (wM h cA (nI n) hd fi un on may asd tx td kp ko ka tr pat pfr rhd rif rul prr prm u.1 u.2 nw ot ev od)) A) A) ([.ref (h 0)] : List Value).toArray s 0 0 A) (F0 m 5 ls []) := by
    intro z_1
    induction z_1 with
    | zero =>
      intro j5 hj5 best he5  rd_2 bb_3 H locs hP hD hS ls hl
      obtain rfl : on.toNatClampNeg + 1 = j5 := by omega
      refine lv_iload_n hx hb dX3_givesUp_5 rfl (lv_at hl 2 rfl) ?_
      refine lv_aload_n hx hb dX3_givesUp_6 rfl (lv_at hl 0 rfl) ?_
      refine va_get (D := D) (ci := 3) (v := .int on) (C := RX3) (T := TX3) (N := 26) hx hb hts hinX3 hown hK hP 0 rfl rfl 4 (by decide) (hts (.fieldLink RX3 114 "HoldUnlessModel" "on" "I") (by decide +kernel)) (fun _ h9 => h9) rfl dX3_givesUp_7 ?_
      refine lv_icmp_gt (tgt := 76) hx hb dX3_givesUp_10 (by decide) (fun _ => ?_) (fun hh_5 => absurd (sm_lt hsm) hh_5)
      refine lv_iload_n hx hb dX3_givesUp_76 rfl (lv_at hl 1 rfl) ?_
      exact rw_iret hx hb hr hS hlocks (rd_2, bb_3) (show s_X3_givesUp n hd fi un may on asd = best from by (unfold s_X3_givesUp; (try dsimp only); (try rw [← he5]); (try dsimp only); first | done | with_reducible rfl)).symm hP hD dX3_givesUp_77
    | succ z_1 ih5 =>
      intro j5 hj5 best he5  rd_2 bb_3 H locs hP hD hS ls hl
      refine lv_iload_n hx hb dX3_givesUp_5 rfl (lv_at hl 2 rfl) ?_
      refine lv_aload_n hx hb dX3_givesUp_6 rfl (lv_at hl 0 rfl) ?_
      refine va_get (D := D) (ci := 3) (v := .int on) (C := RX3) (T := TX3) (N := 26) hx hb hts hinX3 hown hK hP 0 rfl rfl 4 (by decide) (hts (.fieldLink RX3 114 "HoldUnlessModel" "on" "I") (by decide +kernel)) (fun _ h9 => h9) rfl dX3_givesUp_7 ?_
      refine lv_icmp_gt (tgt := 76) hx hb dX3_givesUp_10 (by decide) (fun hh_7 => absurd hh_7 (sm_nlt hsm (by omega))) (fun _ => ?_)
      refine lv_iload_n hx hb dX3_givesUp_13 rfl (lv_at hl 2 rfl) ?_
      refine ro_i (D := D) (va_runS (As := [.int (nI j5)]) (rest := []) ⟨hx, hb, hml, hown, hts⟩ (c_X3_ones l D (nI j5)  _) (va_cwS 1 hts gX3_givesUp_X3_ones rfl rfl rfl (by decide +kernel) ⟨Nat.le_of_ble_eq_true rfl, Nat.le_of_ble_eq_true rfl⟩) ⟨cPre.blind, cPre.mk vP0 hKe vD0 hN⟩ rfl rfl hl.1 rfl (lv_room (Nat.le_of_ble_eq_true rfl)) dX3_givesUp_14 ⟨Nat.zero_le _, Nat.zero_le _⟩) hS hA (fun H locs hkp0 hS => ?_)
      replace hP := hkp0 _ hP
      refine lv_iload_n hx hb dX3_givesUp_17 rfl (lv_at hl 1 rfl) ?_
      refine lv_if_ge (tgt := 25) hx hb dX3_givesUp_18 (by decide) (fun c_18_8 => ?_) (fun c_18_8 => ?_)
      · refine lv_iload_n hx hb dX3_givesUp_25 rfl (lv_at hl 1 rfl) ?_
        refine ro_i (D := D) (va_runS (As := [.int best]) (rest := [.int (s_X3_ones (nI j5))]) ⟨hx, hb, hml, hown, hts⟩ (c_X3_ones l D best  _) (va_cwS 1 hts gX3_givesUp_X3_ones rfl rfl rfl (by decide +kernel) ⟨Nat.le_of_ble_eq_true rfl, Nat.le_of_ble_eq_true rfl⟩) ⟨cPre.blind, cPre.mk vP0 hKe vD0 hN⟩ rfl rfl hl.1 rfl (lv_room (Nat.le_of_ble_eq_true rfl)) dX3_givesUp_26 ⟨Nat.zero_le _, Nat.zero_le _⟩) hS hA (fun H locs hkp0 hS => ?_)
        replace hP := hkp0 _ hP
        refine lv_icmp_ge (tgt := 36) hx hb dX3_givesUp_29 (by decide) (fun c_29_9 => ?_) (fun c_29_9 => ?_)
        · refine lv_iconst (v := 0) hx hb dX3_givesUp_36 (by decide) ?_
          refine lv_istore_n (lv' := [(3, .int 0), (0, .ref (h 0)), (1, .int best), (2, .int (nI j5))]) hx hb dX3_givesUp_37 rfl hl (by decide) rfl (fun ls hl => ?_)
          refine lv_iload_n hx hb dX3_givesUp_38 rfl (lv_at hl 3 rfl) ?_
          refine lv_aload_n hx hb dX3_givesUp_39 rfl (lv_at hl 1 rfl) ?_
          refine va_get (D := D) (ci := 3) (v := .int on) (C := RX3) (T := TX3) (N := 26) hx hb hts hinX3 hown hK hP 0 rfl rfl 4 (by decide) (hts (.fieldLink RX3 114 "HoldUnlessModel" "on" "I") (by decide +kernel)) (fun _ h9 => h9) rfl dX3_givesUp_40 ?_
          refine lv_iconst (v := (-1)) hx hb dX3_givesUp_43 (by decide) ?_
          refine lv_ixor hx hb dX3_givesUp_44 ?_
          refine lv_iand hx hb dX3_givesUp_45 ?_
          refine lv_if_ne (tgt := 70) hx hb dX3_givesUp_46 (by decide) (fun c_46_10 => ?_) (fun c_46_10 => ?_)
          · refine lv_iinc (v := nI (j5 + 1)) (lv' := [(2, .int (nI (j5 + 1))), (3, .int 0), (0, .ref (h 0)), (1, .int best)]) hx hb dX3_givesUp_70 hl (k := 3) rfl (inc_nI j5) (by decide) rfl (fun ls hl => ?_)
            refine lv_goto (tgt := 5) hx hb dX3_givesUp_73 (by decide) ?_
            exact ih5 (j5 + 1) (by omega) best (itr_step he5 (by (unfold f_X3_givesUp_5; (try dsimp only); (try rw [if_pos c_18_8]); (try rw [if_pos c_29_9]); (try rw [if_neg c_46_10]); first | done | with_reducible rfl)))  rd_2 bb_3 _ _ hP hD hS _ (lv_sub hl [2, 3, 0] rfl)
          · refine lv_iload_n hx hb dX3_givesUp_49 rfl (lv_at hl 0 rfl) ?_
            refine lv_if_eq (tgt := 70) hx hb dX3_givesUp_50 (by decide) (fun _ => ?_) (fun hh_12 => absurd (by decide) hh_12)
            refine lv_iinc (v := nI (j5 + 1)) (lv' := [(2, .int (nI (j5 + 1))), (3, .int 0), (0, .ref (h 0)), (1, .int best)]) hx hb dX3_givesUp_70 hl (k := 3) rfl (inc_nI j5) (by decide) rfl (fun ls hl => ?_)
            refine lv_goto (tgt := 5) hx hb dX3_givesUp_73 (by decide) ?_
            exact ih5 (j5 + 1) (by omega) best (itr_step he5 (by (unfold f_X3_givesUp_5; (try dsimp only); (try rw [if_pos c_18_8]); (try rw [if_pos c_29_9]); (try rw [if_pos c_46_10]); first | done | with_reducible rfl)))  rd_2 bb_3 _ _ hP hD hS _ (lv_sub hl [2, 3, 0] rfl)
        · refine lv_iconst (v := 1) hx hb dX3_givesUp_32 (by decide) ?_
          refine lv_goto (tgt := 37) hx hb dX3_givesUp_33 (by decide) ?_
          refine lv_istore_n (lv' := [(3, .int 1), (0, .ref (h 0)), (1, .int best), (2, .int (nI j5))]) hx hb dX3_givesUp_37 rfl hl (by decide) rfl (fun ls hl => ?_)
          refine lv_iload_n hx hb dX3_givesUp_38 rfl (lv_at hl 3 rfl) ?_
          refine lv_aload_n hx hb dX3_givesUp_39 rfl (lv_at hl 1 rfl) ?_
          refine va_get (D := D) (ci := 3) (v := .int on) (C := RX3) (T := TX3) (N := 26) hx hb hts hinX3 hown hK hP 0 rfl rfl 4 (by decide) (hts (.fieldLink RX3 114 "HoldUnlessModel" "on" "I") (by decide +kernel)) (fun _ h9 => h9) rfl dX3_givesUp_40 ?_
          refine lv_iconst (v := (-1)) hx hb dX3_givesUp_43 (by decide) ?_
          refine lv_ixor hx hb dX3_givesUp_44 ?_
          refine lv_iand hx hb dX3_givesUp_45 ?_
          refine lv_if_ne (tgt := 70) hx hb dX3_givesUp_46 (by decide) (fun c_46_13 => ?_) (fun c_46_13 => ?_)
          · refine lv_iinc (v := nI (j5 + 1)) (lv' := [(2, .int (nI (j5 + 1))), (3, .int 1), (0, .ref (h 0)), (1, .int best)]) hx hb dX3_givesUp_70 hl (k := 3) rfl (inc_nI j5) (by decide) rfl (fun ls hl => ?_)
            refine lv_goto (tgt := 5) hx hb dX3_givesUp_73 (by decide) ?_
            exact ih5 (j5 + 1) (by omega) best (itr_step he5 (by (unfold f_X3_givesUp_5; (try dsimp only); (try rw [if_pos c_18_8]); (try rw [if_neg c_29_9]); (try rw [if_neg c_46_13]); first | done | with_reducible rfl)))  rd_2 bb_3 _ _ hP hD hS _ (lv_sub hl [2, 3, 0] rfl)
          · refine lv_iload_n hx hb dX3_givesUp_49 rfl (lv_at hl 0 rfl) ?_
            refine lv_if_eq (tgt := 70) hx hb dX3_givesUp_50 (by decide) (fun hh_15 => absurd hh_15 (by decide)) (fun _ => ?_)
            refine lv_aload_n hx hb dX3_givesUp_53 rfl (lv_at hl 1 rfl) ?_
            refine lv_aload_n hx hb dX3_givesUp_54 rfl (lv_at hl 1 rfl) ?_
            refine va_get (D := D) (ci := 3) (v := .int on) (C := RX3) (T := TX3) (N := 26) hx hb hts hinX3 hown hK hP 0 rfl rfl 4 (by decide) (hts (.fieldLink RX3 114 "HoldUnlessModel" "on" "I") (by decide +kernel)) (fun _ h9 => h9) rfl dX3_givesUp_55 ?_
            refine lv_iload_n hx hb dX3_givesUp_58 rfl (lv_at hl 3 rfl) ?_
            refine lv_iconst (v := (-1)) hx hb dX3_givesUp_59 (by decide) ?_
            refine lv_ixor hx hb dX3_givesUp_60 ?_
            refine lv_iand hx hb dX3_givesUp_61 ?_
            have hFc := va_free (wc := (wM h cA (nI n) hd fi un on may asd tx td kp ko ka tr pat pfr rhd rif rul prr prm rd_2 bb_3 nw ot ev od)) hD hS hA [0, 1, 2, 3, 4, 5, 6, 7, 8, 9, 10, 11, 12, 13, 14, 15, 16] rfl
            refine rw_i (D := D) (wc := (wM h cA (nI n) hd fi un on may asd tx td kp ko ka tr pat pfr rhd rif rul prr prm rd_2 bb_3 nw ot ev od)) (va_runV (As := [.int (on &&& ((nI j5) ^^^ (-1)))]) (rest := []) ⟨hx, hb, hml, hown, hts⟩ (c_X3_isAny l D h cA n hd fi un on may asd tx td kp ko ka tr pat pfr rhd rif rul prr prm rd_2 bb_3 nw ot ev od (on &&& ((nI j5) ^^^ (-1))) (by first | assumption | omega) hhd _) (cwV 1 hts gX3_givesUp_X3_isAny rfl rfl rfl (by decide +kernel) ⟨Nat.le_of_ble_eq_true rfl, Nat.le_of_ble_eq_true rfl⟩) ⟨cPre.blind, va_recv hK hP (ci := 3) (q0 := 0) rfl rfl, cPre.mk hP hK hD hN⟩ rfl rfl hl.1 rfl (lv_room (Nat.le_of_ble_eq_true rfl)) dX3_givesUp_62 ⟨Nat.zero_le _, Nat.zero_le _⟩) hS hFc (fun rv_18 u H1 locs hw_19 hP1 hD1 hk1 hS => ?_)
            obtain ⟨rdv_16, bbv_17⟩ := u
            try dsimp only at hw_19
            have hP : va_P D vwCl (wM h cA (nI n) hd fi un on may asd tx td kp ko ka tr pat pfr rhd rif rul prr prm rdv_16 bbv_17 nw ot ev od) H1 := hP1
            have hD : va_D A (wM h cA (nI n) hd fi un on may asd tx td kp ko ka tr pat pfr rhd rif rul prr prm rdv_16 bbv_17 nw ot ev od) := hD1.weaken (fun k q hk h => hFc _ h)
            clear hP1 hD1 hFc hk1
            generalize H1 = H at hP hS ⊢
            subst hw_19
            refine lv_if_eq (tgt := 70) hx hb dX3_givesUp_65 (by decide) (fun c_65_20 => ?_) (fun c_65_20 => ?_)
            · refine lv_iinc (v := nI (j5 + 1)) (lv' := [(2, .int (nI (j5 + 1))), (3, .int 1), (0, .ref (h 0)), (1, .int best)]) hx hb dX3_givesUp_70 hl (k := 3) rfl (inc_nI j5) (by decide) rfl (fun ls hl => ?_)
              refine lv_goto (tgt := 5) hx hb dX3_givesUp_73 (by decide) ?_
              exact ih5 (j5 + 1) (by omega) best (itr_step he5 (by (unfold f_X3_givesUp_5; (try dsimp only); (try rw [if_pos c_18_8]); (try rw [if_neg c_29_9]); (try rw [if_pos c_46_13]); (try rw [if_pos c_65_20]); first | done | with_reducible rfl)))  rdv_16 bbv_17 _ _ hP hD hS _ (lv_sub hl [2, 3, 0] rfl)
            · refine lv_iload_n hx hb dX3_givesUp_68 rfl (lv_at hl 3 rfl) ?_
              refine lv_istore_n (lv' := [(1, .int (nI j5)), (3, .int 1), (0, .ref (h 0)), (2, .int (nI j5))]) hx hb dX3_givesUp_69 rfl hl (by decide) rfl (fun ls hl => ?_)
              refine lv_iinc (v := nI (j5 + 1)) (lv' := [(2, .int (nI (j5 + 1))), (1, .int (nI j5)), (3, .int 1), (0, .ref (h 0))]) hx hb dX3_givesUp_70 hl (k := 3) rfl (inc_nI j5) (by decide) rfl (fun ls hl => ?_)
              refine lv_goto (tgt := 5) hx hb dX3_givesUp_73 (by decide) ?_
              exact ih5 (j5 + 1) (by omega) (nI j5) (itr_step he5 (by (unfold f_X3_givesUp_5; (try dsimp only); (try rw [if_pos c_18_8]); (try rw [if_neg c_29_9]); (try rw [if_pos c_46_13]); (try rw [if_neg c_65_20]); first | done | with_reducible rfl)))  rdv_16 bbv_17 _ _ hP hD hS _ (lv_sub hl [3, 1, 0] rfl)
      · refine lv_iconst (v := 4) hx hb dX3_givesUp_21 (by decide) ?_
        refine lv_goto (tgt := 29) hx hb dX3_givesUp_22 (by decide) ?_
        refine lv_icmp_ge (tgt := 36) hx hb dX3_givesUp_29 (by decide) (fun c_29_21 => ?_) (fun c_29_21 => ?_)
        · refine lv_iconst (v := 0) hx hb dX3_givesUp_36 (by decide) ?_
          refine lv_istore_n (lv' := [(3, .int 0), (0, .ref (h 0)), (1, .int best), (2, .int (nI j5))]) hx hb dX3_givesUp_37 rfl hl (by decide) rfl (fun ls hl => ?_)
          refine lv_iload_n hx hb dX3_givesUp_38 rfl (lv_at hl 3 rfl) ?_
          refine lv_aload_n hx hb dX3_givesUp_39 rfl (lv_at hl 1 rfl) ?_
          refine va_get (D := D) (ci := 3) (v := .int on) (C := RX3) (T := TX3) (N := 26) hx hb hts hinX3 hown hK hP 0 rfl rfl 4 (by decide) (hts (.fieldLink RX3 114 "HoldUnlessModel" "on" "I") (by decide +kernel)) (fun _ h9 => h9) rfl dX3_givesUp_40 ?_
          refine lv_iconst (v := (-1)) hx hb dX3_givesUp_43 (by decide) ?_
          refine lv_ixor hx hb dX3_givesUp_44 ?_
          refine lv_iand hx hb dX3_givesUp_45 ?_
          refine lv_if_ne (tgt := 70) hx hb dX3_givesUp_46 (by decide) (fun c_46_22 => ?_) (fun c_46_22 => ?_)
          · refine lv_iinc (v := nI (j5 + 1)) (lv' := [(2, .int (nI (j5 + 1))), (3, .int 0), (0, .ref (h 0)), (1, .int best)]) hx hb dX3_givesUp_70 hl (k := 3) rfl (inc_nI j5) (by decide) rfl (fun ls hl => ?_)
            refine lv_goto (tgt := 5) hx hb dX3_givesUp_73 (by decide) ?_
            exact ih5 (j5 + 1) (by omega) best (itr_step he5 (by (unfold f_X3_givesUp_5; (try dsimp only); (try rw [if_neg c_18_8]); (try rw [if_pos c_29_21]); (try rw [if_neg c_46_22]); first | done | with_reducible rfl)))  rd_2 bb_3 _ _ hP hD hS _ (lv_sub hl [2, 3, 0] rfl)
          · refine lv_iload_n hx hb dX3_givesUp_49 rfl (lv_at hl 0 rfl) ?_
            refine lv_if_eq (tgt := 70) hx hb dX3_givesUp_50 (by decide) (fun _ => ?_) (fun hh_24 => absurd (by decide) hh_24)
            refine lv_iinc (v := nI (j5 + 1)) (lv' := [(2, .int (nI (j5 + 1))), (3, .int 0), (0, .ref (h 0)), (1, .int best)]) hx hb dX3_givesUp_70 hl (k := 3) rfl (inc_nI j5) (by decide) rfl (fun ls hl => ?_)
            refine lv_goto (tgt := 5) hx hb dX3_givesUp_73 (by decide) ?_
            exact ih5 (j5 + 1) (by omega) best (itr_step he5 (by (unfold f_X3_givesUp_5; (try dsimp only); (try rw [if_neg c_18_8]); (try rw [if_pos c_29_21]); (try rw [if_pos c_46_22]); first | done | with_reducible rfl)))  rd_2 bb_3 _ _ hP hD hS _ (lv_sub hl [2, 3, 0] rfl)
        · refine lv_iconst (v := 1) hx hb dX3_givesUp_32 (by decide) ?_
          refine lv_goto (tgt := 37) hx hb dX3_givesUp_33 (by decide) ?_
          refine lv_istore_n (lv' := [(3, .int 1), (0, .ref (h 0)), (1, .int best), (2, .int (nI j5))]) hx hb dX3_givesUp_37 rfl hl (by decide) rfl (fun ls hl => ?_)
          refine lv_iload_n hx hb dX3_givesUp_38 rfl (lv_at hl 3 rfl) ?_
          refine lv_aload_n hx hb dX3_givesUp_39 rfl (lv_at hl 1 rfl) ?_
          refine va_get (D := D) (ci := 3) (v := .int on) (C := RX3) (T := TX3) (N := 26) hx hb hts hinX3 hown hK hP 0 rfl rfl 4 (by decide) (hts (.fieldLink RX3 114 "HoldUnlessModel" "on" "I") (by decide +kernel)) (fun _ h9 => h9) rfl dX3_givesUp_40 ?_
          refine lv_iconst (v := (-1)) hx hb dX3_givesUp_43 (by decide) ?_
          refine lv_ixor hx hb dX3_givesUp_44 ?_
          refine lv_iand hx hb dX3_givesUp_45 ?_
          refine lv_if_ne (tgt := 70) hx hb dX3_givesUp_46 (by decide) (fun c_46_25 => ?_) (fun c_46_25 => ?_)
          · refine lv_iinc (v := nI (j5 + 1)) (lv' := [(2, .int (nI (j5 + 1))), (3, .int 1), (0, .ref (h 0)), (1, .int best)]) hx hb dX3_givesUp_70 hl (k := 3) rfl (inc_nI j5) (by decide) rfl (fun ls hl => ?_)
            refine lv_goto (tgt := 5) hx hb dX3_givesUp_73 (by decide) ?_
            exact ih5 (j5 + 1) (by omega) best (itr_step he5 (by (unfold f_X3_givesUp_5; (try dsimp only); (try rw [if_neg c_18_8]); (try rw [if_neg c_29_21]); (try rw [if_neg c_46_25]); first | done | with_reducible rfl)))  rd_2 bb_3 _ _ hP hD hS _ (lv_sub hl [2, 3, 0] rfl)
          · refine lv_iload_n hx hb dX3_givesUp_49 rfl (lv_at hl 0 rfl) ?_
            refine lv_if_eq (tgt := 70) hx hb dX3_givesUp_50 (by decide) (fun hh_27 => absurd hh_27 (by decide)) (fun _ => ?_)
            refine lv_aload_n hx hb dX3_givesUp_53 rfl (lv_at hl 1 rfl) ?_
            refine lv_aload_n hx hb dX3_givesUp_54 rfl (lv_at hl 1 rfl) ?_
            refine va_get (D := D) (ci := 3) (v := .int on) (C := RX3) (T := TX3) (N := 26) hx hb hts hinX3 hown hK hP 0 rfl rfl 4 (by decide) (hts (.fieldLink RX3 114 "HoldUnlessModel" "on" "I") (by decide +kernel)) (fun _ h9 => h9) rfl dX3_givesUp_55 ?_
            refine lv_iload_n hx hb dX3_givesUp_58 rfl (lv_at hl 3 rfl) ?_
            refine lv_iconst (v := (-1)) hx hb dX3_givesUp_59 (by decide) ?_
            refine lv_ixor hx hb dX3_givesUp_60 ?_
            refine lv_iand hx hb dX3_givesUp_61 ?_
            have hFc := va_free (wc := (wM h cA (nI n) hd fi un on may asd tx td kp ko ka tr pat pfr rhd rif rul prr prm rd_2 bb_3 nw ot ev od)) hD hS hA [0, 1, 2, 3, 4, 5, 6, 7, 8, 9, 10, 11, 12, 13, 14, 15, 16] rfl
            refine rw_i (D := D) (wc := (wM h cA (nI n) hd fi un on may asd tx td kp ko ka tr pat pfr rhd rif rul prr prm rd_2 bb_3 nw ot ev od)) (va_runV (As := [.int (on &&& ((nI j5) ^^^ (-1)))]) (rest := []) ⟨hx, hb, hml, hown, hts⟩ (c_X3_isAny l D h cA n hd fi un on may asd tx td kp ko ka tr pat pfr rhd rif rul prr prm rd_2 bb_3 nw ot ev od (on &&& ((nI j5) ^^^ (-1))) (by first | assumption | omega) hhd _) (cwV 1 hts gX3_givesUp_X3_isAny rfl rfl rfl (by decide +kernel) ⟨Nat.le_of_ble_eq_true rfl, Nat.le_of_ble_eq_true rfl⟩) ⟨cPre.blind, va_recv hK hP (ci := 3) (q0 := 0) rfl rfl, cPre.mk hP hK hD hN⟩ rfl rfl hl.1 rfl (lv_room (Nat.le_of_ble_eq_true rfl)) dX3_givesUp_62 ⟨Nat.zero_le _, Nat.zero_le _⟩) hS hFc (fun rv_30 u H1 locs hw_31 hP1 hD1 hk1 hS => ?_)
            obtain ⟨rdv_28, bbv_29⟩ := u
            try dsimp only at hw_31
            have hP : va_P D vwCl (wM h cA (nI n) hd fi un on may asd tx td kp ko ka tr pat pfr rhd rif rul prr prm rdv_28 bbv_29 nw ot ev od) H1 := hP1
            have hD : va_D A (wM h cA (nI n) hd fi un on may asd tx td kp ko ka tr pat pfr rhd rif rul prr prm rdv_28 bbv_29 nw ot ev od) := hD1.weaken (fun k q hk h => hFc _ h)
            clear hP1 hD1 hFc hk1
            generalize H1 = H at hP hS ⊢
            subst hw_31
            refine lv_if_eq (tgt := 70) hx hb dX3_givesUp_65 (by decide) (fun c_65_32 => ?_) (fun c_65_32 => ?_)
            · refine lv_iinc (v := nI (j5 + 1)) (lv' := [(2, .int (nI (j5 + 1))), (3, .int 1), (0, .ref (h 0)), (1, .int best)]) hx hb dX3_givesUp_70 hl (k := 3) rfl (inc_nI j5) (by decide) rfl (fun ls hl => ?_)
              refine lv_goto (tgt := 5) hx hb dX3_givesUp_73 (by decide) ?_
              exact ih5 (j5 + 1) (by omega) best (itr_step he5 (by (unfold f_X3_givesUp_5; (try dsimp only); (try rw [if_neg c_18_8]); (try rw [if_neg c_29_21]); (try rw [if_pos c_46_25]); (try rw [if_pos c_65_32]); first | done | with_reducible rfl)))  rdv_28 bbv_29 _ _ hP hD hS _ (lv_sub hl [2, 3, 0] rfl)
            · refine lv_iload_n hx hb dX3_givesUp_68 rfl (lv_at hl 3 rfl) ?_
              refine lv_istore_n (lv' := [(1, .int (nI j5)), (3, .int 1), (0, .ref (h 0)), (2, .int (nI j5))]) hx hb dX3_givesUp_69 rfl hl (by decide) rfl (fun ls hl => ?_)
              refine lv_iinc (v := nI (j5 + 1)) (lv' := [(2, .int (nI (j5 + 1))), (1, .int (nI j5)), (3, .int 1), (0, .ref (h 0))]) hx hb dX3_givesUp_70 hl (k := 3) rfl (inc_nI j5) (by decide) rfl (fun ls hl => ?_)
              refine lv_goto (tgt := 5) hx hb dX3_givesUp_73 (by decide) ?_
              exact ih5 (j5 + 1) (by omega) (nI j5) (itr_step he5 (by (unfold f_X3_givesUp_5; (try dsimp only); (try rw [if_neg c_18_8]); (try rw [if_neg c_29_21]); (try rw [if_pos c_46_25]); (try rw [if_neg c_65_32]); first | done | with_reducible rfl)))  rdv_28 bbv_29 _ _ hP hD hS _ (lv_sub hl [3, 1, 0] rfl)
  exact lp5_3 (on.toNatClampNeg + 1) 0 (by omega) (-9) (itr_zero _ _).symm  rd bb _ _ hP hD hS _ (lv_sub hl [2, 1, 0] rfl)

def f_X3_areSame_33 (nwv_1 : Nat → Int32) (otv_6 : Nat → Int32) (j33 : Nat) (are3 : Int32) : Int32 := (if are3 = 0 then 0 else (if (nwv_1 j33) = (otv_6 j33) then 1 else 0))
def s_X3_areSame (n : Nat) (hd : Nat → Int32) (fi : Nat → Int32) (un : Nat → Int32) (may : Int32) (on : Int32) (asd : Int32) (nw : Nat → Int32) (ot : Nat → Int32) (sme : Int32) (facts : Int32) : Int32 := (onP2 (s_X3_findAll__nw n hd fi un may nw on asd) (fun rv_4 nwv_1 => (onP2 (s_X3_findAll__ot n hd fi un may ot sme facts) (fun rv_9 otv_6 => (match itr (f_X3_areSame_33 nwv_1 otv_6) 1 8 with | are3 => are3)))))
set_option maxHeartbeats 4000000 in
set_option maxRecDepth 100000 in
theorem c_X3_areSame (l : Launch) (D : va_G) (h : Nat → Nat) (cA : Nat → ClassId) (n : Nat) (hd : Nat → Int32) (fi : Nat → Int32) (un : Nat → Int32) (on : Int32) (may : Int32) (asd : Int32) (tx : Nat → Int32) (td : Int32) (kp : Nat → Int32) (ko : Nat → Int32) (ka : Nat → Int32) (tr : Int64) (pat : Int32) (pfr : Int32) (rhd : Nat → Int32) (rif : Nat → Int32) (rul : Nat → Int32) (prr : Int32) (prm : Int32) (rd : Nat → Int32) (bb : Nat → Int32) (nw : Nat → Int32) (ot : Nat → Int32) (ev : Nat → Int32) (od : Nat → Int32) (sme : Int32) (facts : Int32) (hn : n ≤ 10) (hhd : ∀ k : Nat, k < n → ¬ hd k = 8 → vp_in (hd k) 8) (sz : Nat) : Met l yX3_areSame wsX3_areSame ({ frames := 4, cells := 0, slots := 0, locals := 97 }) (va_Pc [.ref (h 0), .int sme, .int facts] (cPre D (tM h cA) (wM h cA (nI n) hd fi un on may asd tx td kp ko ka tr pat pfr rhd rif rul prr prm rd bb nw ot ev od) sz)) (va_Qi (fun (r : Int32) (u : (Nat → Int32) × (Nat → Int32) × (Nat → Int32) × (Nat → Int32)) => r = s_X3_areSame n hd fi un may on asd nw ot sme facts) (rwB D (fun u : (Nat → Int32) × (Nat → Int32) × (Nat → Int32) × (Nat → Int32) => (wM h cA (nI n) hd fi un on may asd tx td kp ko ka tr pat pfr rhd rif rul prr prm u.1 u.2.1 u.2.2.1 u.2.2.2 ev od)) (va_A (wM h cA (nI n) hd fi un on may asd tx td kp ko ka tr pat pfr rhd rif rul prr prm rd bb nw ot ev od) sz)) (va_A (wM h cA (nI n) hd fi un on may asd tx td kp ko ka tr pat pfr rhd rif rul prr prm rd bb nw ot ev od) sz)) 0 0 (va_A (wM h cA (nI n) hd fi un on may asd tx td kp ko ka tr pat pfr rhd rif rul prr prm rd bb nw ot ev od) sz) := by
  refine Met.ofW (cc := cX3_areSame) (maxL := 5) (ret := (some .boolean)) (by decide) rfl ?_
  intro p e s m args below meth c s₁ B hml hv
  obtain ⟨rfl, hsz, hP, hK, hD, hN⟩ := hv
  have hx := B.exec
  have hb := B.bytes
  have hr := B.returns
  have hts := atoms_spec (ws := wsX3_areSame) B.pre
  have hown : s.vm.findClass RX3 = some m.cls := findClass_of_methodNamed B.named
  have hlocks := B.notSynchronized
  have hinX3 : ∀ w ∈ wsX30, w ∈ wsX3_areSame := fun w h => List.mem_cons_of_mem _ (List.mem_append_right _ h)
  subst hsz
  replace hD := hD.self (sz := s.heap.size)
  generalize hAe : va_A (wM h cA (nI n) hd fi un on may asd tx td kp ko ka tr pat pfr rhd rif rul prr prm rd bb nw ot ev od) s.heap.size = A at hD ⊢
  have hA : ∀ q : Nat, s.heap.size ≤ q → A q := fun q h => by rw [← hAe]; exact Or.inr h
  have hS : va_S A s.heap s.heap [] := va_S.rf
  have hl := lv_entry ([.ref (h 0), .int sme, .int facts]) (n := 5) (Nat.le_of_ble_eq_true rfl)
  rw [lg_entry_eq]
  generalize (lg_sl ([.ref (h 0), .int sme, .int facts]) ++ List.replicate (5 - (lg_sl ([.ref (h 0), .int sme, .int facts])).length) Slot.unset).toArray = ls at hl ⊢
  replace hl : lv_has ls 5 [(0, .ref (h 0)), (1, .int sme), (2, .int facts)] := hl
  have hKe := hK.sub (tys' := []) [] rfl
  refine lv_aload_n hx hb dX3_areSame_0 rfl (lv_at hl 0 rfl) ?_
  refine lv_aload_n hx hb dX3_areSame_1 rfl (lv_at hl 0 rfl) ?_
  refine va_get (D := D) (ci := 3) (v := .ref (h 13)) (C := RX3) (T := TX3) (N := 26) hx hb hts hinX3 hown hK hP 0 rfl rfl 22 (by decide) (hts (.fieldLink RX3 47 "HoldUnlessModel" "now" "[I") (by decide +kernel)) (fun _ h9 => h9) rfl dX3_areSame_2 ?_
  refine lv_aload_n hx hb dX3_areSame_5 rfl (lv_at hl 0 rfl) ?_
  refine va_get (D := D) (ci := 3) (v := .int on) (C := RX3) (T := TX3) (N := 26) hx hb hts hinX3 hown hK hP 0 rfl rfl 4 (by decide) (hts (.fieldLink RX3 114 "HoldUnlessModel" "on" "I") (by decide +kernel)) (fun _ h9 => h9) rfl dX3_areSame_6 ?_
  refine lv_aload_n hx hb dX3_areSame_9 rfl (lv_at hl 0 rfl) ?_
  refine va_get (D := D) (ci := 3) (v := .int asd) (C := RX3) (T := TX3) (N := 26) hx hb hts hinX3 hown hK hP 0 rfl rfl 6 (by decide) (hts (.fieldLink RX3 120 "HoldUnlessModel" "assumed" "I") (by decide +kernel)) (fun _ h9 => h9) rfl dX3_areSame_10 ?_
  have hFc := va_free (wc := (wM h cA (nI n) hd fi un on may asd tx td kp ko ka tr pat pfr rhd rif rul prr prm rd bb nw ot ev od)) hD hS hA [0, 1, 2, 3, 4, 5, 6, 7, 8, 9, 10, 11, 12, 13, 14, 15, 16] rfl
  refine rw_i (D := D) (wc := (wM h cA (nI n) hd fi un on may asd tx td kp ko ka tr pat pfr rhd rif rul prr prm rd bb nw ot ev od)) (va_runV (As := [.ref (h 13), .int on, .int asd]) (rest := []) ⟨hx, hb, hml, hown, hts⟩ (c_X3_findAll__nw l D h cA n hd fi un on may asd tx td kp ko ka tr pat pfr rhd rif rul prr prm rd bb nw ot ev od on asd (by first | assumption | omega) hhd _) (cwV 3 hts gX3_areSame_X3_findAll rfl rfl rfl (by decide +kernel) ⟨Nat.le_of_ble_eq_true rfl, Nat.le_of_ble_eq_true rfl⟩) ⟨cPre.blind, va_recv hK hP (ci := 3) (q0 := 0) rfl rfl, cPre.mk hP hK hD hN⟩ rfl rfl hl.1 rfl (lv_room (Nat.le_of_ble_eq_true rfl)) dX3_areSame_13 ⟨Nat.zero_le _, Nat.zero_le _⟩) hS hFc (fun rv_4 u H1 locs hw_5 hP1 hD1 hk1 hS => ?_)
  obtain ⟨nwv_1, rdv_2, bbv_3⟩ := u
  try dsimp only at hw_5
  have hP : va_P D vwCl (wM h cA (nI n) hd fi un on may asd tx td kp ko ka tr pat pfr rhd rif rul prr prm rdv_2 bbv_3 nwv_1 ot ev od) H1 := hP1
  have hD : va_D A (wM h cA (nI n) hd fi un on may asd tx td kp ko ka tr pat pfr rhd rif rul prr prm rdv_2 bbv_3 nwv_1 ot ev od) := hD1.weaken (fun k q hk h => hFc _ h)
  clear hP1 hD1 hFc hk1
  generalize H1 = H at hP hS ⊢
  refine lv_pop hx hb dX3_areSame_16 rfl ?_
  refine lv_aload_n hx hb dX3_areSame_17 rfl (lv_at hl 0 rfl) ?_
  refine lv_aload_n hx hb dX3_areSame_18 rfl (lv_at hl 0 rfl) ?_
  refine va_get (D := D) (ci := 3) (v := .ref (h 14)) (C := RX3) (T := TX3) (N := 26) hx hb hts hinX3 hown hK hP 0 rfl rfl 23 (by decide) (hts (.fieldLink RX3 50 "HoldUnlessModel" "other" "[I") (by decide +kernel)) (fun _ h9 => h9) rfl dX3_areSame_19 ?_
  refine lv_iload_n hx hb dX3_areSame_22 rfl (lv_at hl 1 rfl) ?_
  refine lv_iload_n hx hb dX3_areSame_23 rfl (lv_at hl 2 rfl) ?_
  have hFc := va_free (wc := (wM h cA (nI n) hd fi un on may asd tx td kp ko ka tr pat pfr rhd rif rul prr prm rdv_2 bbv_3 nwv_1 ot ev od)) hD hS hA [0, 1, 2, 3, 4, 5, 6, 7, 8, 9, 10, 11, 12, 13, 14, 15, 16] rfl
  refine rw_i (D := D) (wc := (wM h cA (nI n) hd fi un on may asd tx td kp ko ka tr pat pfr rhd rif rul prr prm rdv_2 bbv_3 nwv_1 ot ev od)) (va_runV (As := [.ref (h 14), .int sme, .int facts]) (rest := []) ⟨hx, hb, hml, hown, hts⟩ (c_X3_findAll__ot l D h cA n hd fi un on may asd tx td kp ko ka tr pat pfr rhd rif rul prr prm rdv_2 bbv_3 nwv_1 ot ev od sme facts (by first | assumption | omega) hhd _) (cwV 3 hts gX3_areSame_X3_findAll rfl rfl rfl (by decide +kernel) ⟨Nat.le_of_ble_eq_true rfl, Nat.le_of_ble_eq_true rfl⟩) ⟨cPre.blind, va_recv hK hP (ci := 3) (q0 := 0) rfl rfl, cPre.mk hP hK hD hN⟩ rfl rfl hl.1 rfl (lv_room (Nat.le_of_ble_eq_true rfl)) dX3_areSame_24 ⟨Nat.zero_le _, Nat.zero_le _⟩) hS hFc (fun rv_9 u H1 locs hw_10 hP1 hD1 hk1 hS => ?_)
  obtain ⟨otv_6, rdv_7, bbv_8⟩ := u
  try dsimp only at hw_10
  have hP : va_P D vwCl (wM h cA (nI n) hd fi un on may asd tx td kp ko ka tr pat pfr rhd rif rul prr prm rdv_7 bbv_8 nwv_1 otv_6 ev od) H1 := hP1
  have hD : va_D A (wM h cA (nI n) hd fi un on may asd tx td kp ko ka tr pat pfr rhd rif rul prr prm rdv_7 bbv_8 nwv_1 otv_6 ev od) := hD1.weaken (fun k q hk h => hFc _ h)
  clear hP1 hD1 hFc hk1
  generalize H1 = H at hP hS ⊢
  refine lv_pop hx hb dX3_areSame_27 rfl ?_
  refine lv_iconst (v := 1) hx hb dX3_areSame_28 (by decide) ?_
  refine lv_istore_n (lv' := [(3, .int 1), (0, .ref (h 0)), (1, .int sme), (2, .int facts)]) hx hb dX3_areSame_29 rfl hl (by decide) rfl (fun ls hl => ?_)
  refine lv_iconst (v := 0) hx hb dX3_areSame_30 (by decide) ?_
  refine lv_istore (lv' := [(4, .int 0), (3, .int 1), (0, .ref (h 0)), (1, .int sme), (2, .int facts)]) hx hb dX3_areSame_31 hl (by decide) rfl (fun ls hl => ?_)
  have lp33_11 : ∀ (z_11 j33 : Nat), j33 + z_11 = 8 → ∀ (are3 : Int32), are3 = itr (f_X3_areSame_33 nwv_1 otv_6) 1 j33 → (are3 = 0 ∨ are3 = 1) → ∀  (H : Heap) (locs : List Loc), va_P D vwCl (wM h cA (nI n) hd fi un on may asd tx td kp ko ka tr pat pfr rhd rif rul prr prm rdv_7 bbv_8 nwv_1 otv_6 ev od) H → va_D A (wM h cA (nI n) hd fi un on may asd tx td kp ko ka tr pat pfr rhd rif rul prr prm rdv_7 bbv_8 nwv_1 otv_6 ev od) → va_S A s.heap H locs → ∀ ls : Array Slot, lv_has ls 5 [(0, .ref (h 0)), (1, .int sme), (2, .int facts), (3, .int are3), (4, .int (nI j33))] → W p l e (headSpec wsX3_areSame ({ frames := 4, cells := 0, slots := 0, locals := 97 })).room s m ([.ref (h 0), .int sme, .int facts] : List Value).toArray below meth c H locs 0 0 (MQ below (va_Qi (fun (r : Int32) (u : (Nat → Int32) × (Nat → Int32) × (Nat → Int32) × (Nat → Int32)) => r = s_X3_areSame n hd fi un may on asd nw ot sme facts) (rwB D (fun u : (Nat → Int32) × (Nat → Int32) × (Nat → Int32) × (Nat → Int32) => (wM h cA (nI n) hd fi un on may asd tx td kp ko ka tr pat pfr rhd rif rul prr prm u.1 u.2.1 u.2.2.1 u.2.2.2 ev od)) A) A) ([.ref (h 0), .int sme, .int facts] : List Value).toArray s 0 0 A) (F0 m 33 ls []) := by
    intro z_11
    induction z_11 with
    | zero =>
      intro j33 hj33 are3 he33 hz  H locs hP hD hS ls hl
      obtain rfl : 8 = j33 := by omega
      refine lv_iload hx hb dX3_areSame_33 (lv_at hl 4 rfl) ?_
      refine lv_bipush (v := 8) hx hb dX3_areSame_35 (by decide) ?_
      refine lv_icmp_ge (tgt := 73) hx hb dX3_areSame_37 (by decide) (fun _ => ?_) (fun hh_13 => absurd (nI_le (a := 8) (b := 8) (by omega) (by omega)) hh_13)
      refine lv_iload_n hx hb dX3_areSame_73 rfl (lv_at hl 3 rfl) ?_
      exact rw_zret hx hb hr hS hlocks (rdv_7, bbv_8, nwv_1, otv_6) (show s_X3_areSame n hd fi un may on asd nw ot sme facts = are3 from by (unfold s_X3_areSame; (try rw [← hw_5]); (try rw [onP2_mk rv_4 nwv_1]); (try rw [← hw_10]); (try rw [onP2_mk rv_9 otv_6]); (try rw [← he33]); first | done | with_reducible rfl)).symm hP hD (by rcases hz with h | h <;> (subst h; decide +kernel)) dX3_areSame_74
    | succ z_11 ih33 =>
      intro j33 hj33 are3 he33 hz  H locs hP hD hS ls hl
      refine lv_iload hx hb dX3_areSame_33 (lv_at hl 4 rfl) ?_
      refine lv_bipush (v := 8) hx hb dX3_areSame_35 (by decide) ?_
      refine lv_icmp_ge (tgt := 73) hx hb dX3_areSame_37 (by decide) (fun hh_15 => absurd hh_15 (nI_ge (a := j33) (b := 8) (by omega) (by omega))) (fun _ => ?_)
      refine lv_iload_n hx hb dX3_areSame_40 rfl (lv_at hl 3 rfl) ?_
      refine lv_if_eq (tgt := 65) hx hb dX3_areSame_41 (by decide) (fun c_41_16 => ?_) (fun c_41_16 => ?_)
      · refine lv_iconst (v := 0) hx hb dX3_areSame_65 (by decide) ?_
        refine lv_istore_n (lv' := [(3, .int 0), (0, .ref (h 0)), (1, .int sme), (2, .int facts), (4, .int (nI j33))]) hx hb dX3_areSame_66 rfl hl (by decide) rfl (fun ls hl => ?_)
        refine lv_iinc (v := nI (j33 + 1)) (lv' := [(4, .int (nI (j33 + 1))), (3, .int 0), (0, .ref (h 0)), (1, .int sme), (2, .int facts)]) hx hb dX3_areSame_67 hl (k := 4) rfl (inc_nI j33) (by decide) rfl (fun ls hl => ?_)
        refine lv_goto (tgt := 33) hx hb dX3_areSame_70 (by decide) ?_
        exact ih33 (j33 + 1) (by omega) 0 (itr_step he33 (by (unfold f_X3_areSame_33; (try rw [if_pos c_41_16]); first | done | with_reducible rfl))) (by first | exact Or.inl rfl | exact Or.inr rfl)  _ _ hP hD hS _ (lv_sub hl [2, 3, 4, 1, 0] rfl)
      · refine lv_aload_n hx hb dX3_areSame_44 rfl (lv_at hl 0 rfl) ?_
        refine va_get (D := D) (ci := 3) (v := .ref (h 13)) (C := RX3) (T := TX3) (N := 26) hx hb hts hinX3 hown hK hP 0 rfl rfl 22 (by decide) (hts (.fieldLink RX3 47 "HoldUnlessModel" "now" "[I") (by decide +kernel)) (fun _ h9 => h9) rfl dX3_areSame_45 ?_
        refine lv_iload hx hb dX3_areSame_48 (lv_at hl 4 rfl) ?_
        refine wa_ild hx hb hK hP 13 12 rfl rfl j33 rfl (by omega) (by decide) dX3_areSame_50 ?_
        refine lv_aload_n hx hb dX3_areSame_51 rfl (lv_at hl 0 rfl) ?_
        refine va_get (D := D) (ci := 3) (v := .ref (h 14)) (C := RX3) (T := TX3) (N := 26) hx hb hts hinX3 hown hK hP 0 rfl rfl 23 (by decide) (hts (.fieldLink RX3 50 "HoldUnlessModel" "other" "[I") (by decide +kernel)) (fun _ h9 => h9) rfl dX3_areSame_52 ?_
        refine lv_iload hx hb dX3_areSame_55 (lv_at hl 4 rfl) ?_
        refine wa_ild hx hb hK hP 14 13 rfl rfl j33 rfl (by omega) (by decide) dX3_areSame_57 ?_
        refine lv_icmp_ne (tgt := 65) hx hb dX3_areSame_58 (by decide) (fun c_58_17 => ?_) (fun c_58_17 => ?_)
        · refine lv_iconst (v := 0) hx hb dX3_areSame_65 (by decide) ?_
          refine lv_istore_n (lv' := [(3, .int 0), (0, .ref (h 0)), (1, .int sme), (2, .int facts), (4, .int (nI j33))]) hx hb dX3_areSame_66 rfl hl (by decide) rfl (fun ls hl => ?_)
          refine lv_iinc (v := nI (j33 + 1)) (lv' := [(4, .int (nI (j33 + 1))), (3, .int 0), (0, .ref (h 0)), (1, .int sme), (2, .int facts)]) hx hb dX3_areSame_67 hl (k := 4) rfl (inc_nI j33) (by decide) rfl (fun ls hl => ?_)
          refine lv_goto (tgt := 33) hx hb dX3_areSame_70 (by decide) ?_
          exact ih33 (j33 + 1) (by omega) 0 (itr_step he33 (by (unfold f_X3_areSame_33; (try rw [if_neg c_41_16]); (try rw [if_neg c_58_17]); first | done | with_reducible rfl))) (by first | exact Or.inl rfl | exact Or.inr rfl)  _ _ hP hD hS _ (lv_sub hl [2, 3, 4, 1, 0] rfl)
        · refine lv_iconst (v := 1) hx hb dX3_areSame_61 (by decide) ?_
          refine lv_goto (tgt := 66) hx hb dX3_areSame_62 (by decide) ?_
          refine lv_istore_n (lv' := [(3, .int 1), (0, .ref (h 0)), (1, .int sme), (2, .int facts), (4, .int (nI j33))]) hx hb dX3_areSame_66 rfl hl (by decide) rfl (fun ls hl => ?_)
          refine lv_iinc (v := nI (j33 + 1)) (lv' := [(4, .int (nI (j33 + 1))), (3, .int 1), (0, .ref (h 0)), (1, .int sme), (2, .int facts)]) hx hb dX3_areSame_67 hl (k := 4) rfl (inc_nI j33) (by decide) rfl (fun ls hl => ?_)
          refine lv_goto (tgt := 33) hx hb dX3_areSame_70 (by decide) ?_
          exact ih33 (j33 + 1) (by omega) 1 (itr_step he33 (by (unfold f_X3_areSame_33; (try rw [if_neg c_41_16]); (try rw [if_pos c_58_17]); first | done | with_reducible rfl))) (by first | exact Or.inl rfl | exact Or.inr rfl)  _ _ hP hD hS _ (lv_sub hl [2, 3, 4, 1, 0] rfl)
  exact lp33_11 8 0 (by omega) 1 (itr_zero _ _).symm (Or.inr rfl)  _ _ hP hD hS _ (lv_sub hl [2, 3, 4, 1, 0] rfl)

def s_X3_idle (n : Nat) (hd : Nat → Int32) (fi : Nat → Int32) (un : Nat → Int32) (may : Int32) (on : Int32) (asd : Int32) (nw : Nat → Int32) (ot : Nat → Int32) (k : Int32) : Int32 := (if (s_X3_isRule n k) = 0 then (-1) else (if (s_X3_has on k) = 0 then (-2) else (if (s_X3_areSame n hd fi un may on asd nw ot (on &&& ((1 <<< (k &&& 31)) ^^^ (-1))) asd) = 0 then 0 else 1)))
set_option maxHeartbeats 4000000 in
set_option maxRecDepth 100000 in
theorem c_X3_idle (l : Launch) (D : va_G) (h : Nat → Nat) (cA : Nat → ClassId) (n : Nat) (hd : Nat → Int32) (fi : Nat → Int32) (un : Nat → Int32) (on : Int32) (may : Int32) (asd : Int32) (tx : Nat → Int32) (td : Int32) (kp : Nat → Int32) (ko : Nat → Int32) (ka : Nat → Int32) (tr : Int64) (pat : Int32) (pfr : Int32) (rhd : Nat → Int32) (rif : Nat → Int32) (rul : Nat → Int32) (prr : Int32) (prm : Int32) (rd : Nat → Int32) (bb : Nat → Int32) (nw : Nat → Int32) (ot : Nat → Int32) (ev : Nat → Int32) (od : Nat → Int32) (k : Int32) (hn : n ≤ 10) (hhd : ∀ k : Nat, k < n → ¬ hd k = 8 → vp_in (hd k) 8) (sz : Nat) : Met l yX3_idle wsX3_idle ({ frames := 5, cells := 0, slots := 0, locals := 121 }) (va_Pc [.ref (h 0), .int k] (cPre D (tM h cA) (wM h cA (nI n) hd fi un on may asd tx td kp ko ka tr pat pfr rhd rif rul prr prm rd bb nw ot ev od) sz)) (va_Qi (fun (r : Int32) (u : (Nat → Int32) × (Nat → Int32) × (Nat → Int32) × (Nat → Int32)) => r = s_X3_idle n hd fi un may on asd nw ot k) (rwB D (fun u : (Nat → Int32) × (Nat → Int32) × (Nat → Int32) × (Nat → Int32) => (wM h cA (nI n) hd fi un on may asd tx td kp ko ka tr pat pfr rhd rif rul prr prm u.1 u.2.1 u.2.2.1 u.2.2.2 ev od)) (va_A (wM h cA (nI n) hd fi un on may asd tx td kp ko ka tr pat pfr rhd rif rul prr prm rd bb nw ot ev od) sz)) (va_A (wM h cA (nI n) hd fi un on may asd tx td kp ko ka tr pat pfr rhd rif rul prr prm rd bb nw ot ev od) sz)) 0 0 (va_A (wM h cA (nI n) hd fi un on may asd tx td kp ko ka tr pat pfr rhd rif rul prr prm rd bb nw ot ev od) sz) := by
  refine Met.ofW (cc := cX3_idle) (maxL := 2) (ret := (some .int)) (by decide) rfl ?_
  intro p e s m args below meth c s₁ B hml hv
  obtain ⟨rfl, hsz, hP, hK, hD, hN⟩ := hv
  have hx := B.exec
  have hb := B.bytes
  have hr := B.returns
  have hts := atoms_spec (ws := wsX3_idle) B.pre
  have hown : s.vm.findClass RX3 = some m.cls := findClass_of_methodNamed B.named
  have hlocks := B.notSynchronized
  have hinX3 : ∀ w ∈ wsX30, w ∈ wsX3_idle := fun w h => List.mem_cons_of_mem _ (List.mem_append_right _ h)
  subst hsz
  replace hD := hD.self (sz := s.heap.size)
  generalize hAe : va_A (wM h cA (nI n) hd fi un on may asd tx td kp ko ka tr pat pfr rhd rif rul prr prm rd bb nw ot ev od) s.heap.size = A at hD ⊢
  have hA : ∀ q : Nat, s.heap.size ≤ q → A q := fun q h => by rw [← hAe]; exact Or.inr h
  have hS : va_S A s.heap s.heap [] := va_S.rf
  have hl := lv_entry ([.ref (h 0), .int k]) (n := 2) (Nat.le_of_ble_eq_true rfl)
  rw [lg_entry_eq]
  generalize (lg_sl ([.ref (h 0), .int k]) ++ List.replicate (2 - (lg_sl ([.ref (h 0), .int k])).length) Slot.unset).toArray = ls at hl ⊢
  replace hl : lv_has ls 2 [(0, .ref (h 0)), (1, .int k)] := hl
  have hKe := hK.sub (tys' := []) [] rfl
  refine lv_aload_n hx hb dX3_idle_0 rfl (lv_at hl 0 rfl) ?_
  refine lv_iload_n hx hb dX3_idle_1 rfl (lv_at hl 1 rfl) ?_
  refine ro_i (D := D) (va_runV (As := [.int k]) (rest := []) ⟨hx, hb, hml, hown, hts⟩ (c_X3_isRule l D h cA n hd fi un on may asd tx td kp ko ka tr pat pfr rhd rif rul prr prm rd bb nw ot ev od k (by first | assumption | omega) _) (cwV 1 hts gX3_idle_X3_isRule rfl rfl rfl (by decide +kernel) ⟨Nat.le_of_ble_eq_true rfl, Nat.le_of_ble_eq_true rfl⟩) ⟨cPre.blind, va_recv hK hP (ci := 3) (q0 := 0) rfl rfl, cPre.mk hP hK hD hN⟩ rfl rfl hl.1 rfl (lv_room (Nat.le_of_ble_eq_true rfl)) dX3_idle_2 ⟨Nat.zero_le _, Nat.zero_le _⟩) hS hA (fun H locs hkp0 hS => ?_)
  replace hP := hkp0 _ hP
  refine lv_if_ne (tgt := 10) hx hb dX3_idle_5 (by decide) (fun c_5_1 => ?_) (fun c_5_1 => ?_)
  · refine lv_aload_n hx hb dX3_idle_10 rfl (lv_at hl 0 rfl) ?_
    refine va_get (D := D) (ci := 3) (v := .int on) (C := RX3) (T := TX3) (N := 26) hx hb hts hinX3 hown hK hP 0 rfl rfl 4 (by decide) (hts (.fieldLink RX3 114 "HoldUnlessModel" "on" "I") (by decide +kernel)) (fun _ h9 => h9) rfl dX3_idle_11 ?_
    refine lv_iload_n hx hb dX3_idle_14 rfl (lv_at hl 1 rfl) ?_
    refine ro_i (D := D) (va_runS (As := [.int on, .int k]) (rest := []) ⟨hx, hb, hml, hown, hts⟩ (c_X3_has l D on k  _) (va_cwS 2 hts gX3_idle_X3_has rfl rfl rfl (by decide +kernel) ⟨Nat.le_of_ble_eq_true rfl, Nat.le_of_ble_eq_true rfl⟩) ⟨cPre.blind, cPre.mk vP0 hKe vD0 hN⟩ rfl rfl hl.1 rfl (lv_room (Nat.le_of_ble_eq_true rfl)) dX3_idle_15 ⟨Nat.zero_le _, Nat.zero_le _⟩) hS hA (fun H locs hkp0 hS => ?_)
    replace hP := hkp0 _ hP
    refine lv_if_ne (tgt := 24) hx hb dX3_idle_18 (by decide) (fun c_18_2 => ?_) (fun c_18_2 => ?_)
    · refine lv_aload_n hx hb dX3_idle_24 rfl (lv_at hl 0 rfl) ?_
      refine lv_aload_n hx hb dX3_idle_25 rfl (lv_at hl 0 rfl) ?_
      refine va_get (D := D) (ci := 3) (v := .int on) (C := RX3) (T := TX3) (N := 26) hx hb hts hinX3 hown hK hP 0 rfl rfl 4 (by decide) (hts (.fieldLink RX3 114 "HoldUnlessModel" "on" "I") (by decide +kernel)) (fun _ h9 => h9) rfl dX3_idle_26 ?_
      refine lv_iconst (v := 1) hx hb dX3_idle_29 (by decide) ?_
      refine lv_iload_n hx hb dX3_idle_30 rfl (lv_at hl 1 rfl) ?_
      refine lv_ishl hx hb dX3_idle_31 ?_
      refine lv_iconst (v := (-1)) hx hb dX3_idle_32 (by decide) ?_
      refine lv_ixor hx hb dX3_idle_33 ?_
      refine lv_iand hx hb dX3_idle_34 ?_
      refine lv_aload_n hx hb dX3_idle_35 rfl (lv_at hl 0 rfl) ?_
      refine va_get (D := D) (ci := 3) (v := .int asd) (C := RX3) (T := TX3) (N := 26) hx hb hts hinX3 hown hK hP 0 rfl rfl 6 (by decide) (hts (.fieldLink RX3 120 "HoldUnlessModel" "assumed" "I") (by decide +kernel)) (fun _ h9 => h9) rfl dX3_idle_36 ?_
      have hFc := va_free (wc := (wM h cA (nI n) hd fi un on may asd tx td kp ko ka tr pat pfr rhd rif rul prr prm rd bb nw ot ev od)) hD hS hA [0, 1, 2, 3, 4, 5, 6, 7, 8, 9, 10, 11, 12, 13, 14, 15, 16] rfl
      refine rw_ie (D := D) (wc := (wM h cA (nI n) hd fi un on may asd tx td kp ko ka tr pat pfr rhd rif rul prr prm rd bb nw ot ev od)) (va_runV (As := [.int (on &&& ((1 <<< (k &&& 31)) ^^^ (-1))), .int asd]) (rest := []) ⟨hx, hb, hml, hown, hts⟩ (c_X3_areSame l D h cA n hd fi un on may asd tx td kp ko ka tr pat pfr rhd rif rul prr prm rd bb nw ot ev od (on &&& ((1 <<< (k &&& 31)) ^^^ (-1))) asd (by first | assumption | omega) hhd _) (cwV 2 hts gX3_idle_X3_areSame rfl rfl rfl (by decide +kernel) ⟨Nat.le_of_ble_eq_true rfl, Nat.le_of_ble_eq_true rfl⟩) ⟨cPre.blind, va_recv hK hP (ci := 3) (q0 := 0) rfl rfl, cPre.mk hP hK hD hN⟩ rfl rfl hl.1 rfl (lv_room (Nat.le_of_ble_eq_true rfl)) dX3_idle_39 ⟨Nat.zero_le _, Nat.zero_le _⟩) hS hFc (fun u H1 locs hP1 hD1 hk1 hS => ?_)
      obtain ⟨rdv_3, bbv_4, nwv_5, otv_6⟩ := u
      have hP : va_P D vwCl (wM h cA (nI n) hd fi un on may asd tx td kp ko ka tr pat pfr rhd rif rul prr prm rdv_3 bbv_4 nwv_5 otv_6 ev od) H1 := hP1
      have hD : va_D A (wM h cA (nI n) hd fi un on may asd tx td kp ko ka tr pat pfr rhd rif rul prr prm rdv_3 bbv_4 nwv_5 otv_6 ev od) := hD1.weaken (fun k q hk h => hFc _ h)
      clear hP1 hD1 hFc hk1
      generalize H1 = H at hP hS ⊢
      refine lv_if_eq (tgt := 49) hx hb dX3_idle_42 (by decide) (fun c_42_9 => ?_) (fun c_42_9 => ?_)
      · refine lv_iconst (v := 0) hx hb dX3_idle_49 (by decide) ?_
        exact rw_iret hx hb hr hS hlocks (rdv_3, bbv_4, nwv_5, otv_6) (show s_X3_idle n hd fi un may on asd nw ot k = 0 from by (unfold s_X3_idle; (try rw [if_neg c_5_1]); (try rw [if_neg c_18_2]); (try rw [if_pos c_42_9]); first | done | with_reducible rfl)).symm hP hD dX3_idle_50
      · refine lv_iconst (v := 1) hx hb dX3_idle_45 (by decide) ?_
        refine lv_goto (tgt := 50) hx hb dX3_idle_46 (by decide) ?_
        exact rw_iret hx hb hr hS hlocks (rdv_3, bbv_4, nwv_5, otv_6) (show s_X3_idle n hd fi un may on asd nw ot k = 1 from by (unfold s_X3_idle; (try rw [if_neg c_5_1]); (try rw [if_neg c_18_2]); (try rw [if_neg c_42_9]); first | done | with_reducible rfl)).symm hP hD dX3_idle_50
    · refine lv_bipush (v := (-2)) hx hb dX3_idle_21 (by decide) ?_
      exact rw_iret hx hb hr hS hlocks (rd, bb, nw, ot) (show s_X3_idle n hd fi un may on asd nw ot k = (-2) from by (unfold s_X3_idle; (try rw [if_neg c_5_1]); (try rw [if_pos c_18_2]); first | done | with_reducible rfl)).symm hP hD dX3_idle_23
  · refine lv_iconst (v := (-1)) hx hb dX3_idle_8 (by decide) ?_
    exact rw_iret hx hb hr hS hlocks (rd, bb, nw, ot) (show s_X3_idle n hd fi un may on asd nw ot k = (-1) from by (unfold s_X3_idle; (try rw [if_pos c_5_1]); first | done | with_reducible rfl)).symm hP hD dX3_idle_9

def s_X3_alike (n : Nat) (hd : Nat → Int32) (fi : Nat → Int32) (un : Nat → Int32) (may : Int32) (on : Int32) (asd : Int32) (nw : Nat → Int32) (ot : Nat → Int32) (kp : Nat → Int32) (ko : Nat → Int32) (ka : Nat → Int32) (image : Int32) : Int32 := (if (s_X3_in ((image : Int32).toInt64) 0 1) = 0 then (-1) else (if (kp image.toNatClampNeg) = 0 then (-2) else (if (s_X3_areSame n hd fi un may on asd nw ot (ko image.toNatClampNeg) (ka image.toNatClampNeg)) = 0 then 0 else 1)))
set_option maxHeartbeats 4000000 in
set_option maxRecDepth 100000 in
theorem c_X3_alike (l : Launch) (D : va_G) (h : Nat → Nat) (cA : Nat → ClassId) (n : Nat) (hd : Nat → Int32) (fi : Nat → Int32) (un : Nat → Int32) (on : Int32) (may : Int32) (asd : Int32) (tx : Nat → Int32) (td : Int32) (kp : Nat → Int32) (ko : Nat → Int32) (ka : Nat → Int32) (tr : Int64) (pat : Int32) (pfr : Int32) (rhd : Nat → Int32) (rif : Nat → Int32) (rul : Nat → Int32) (prr : Int32) (prm : Int32) (rd : Nat → Int32) (bb : Nat → Int32) (nw : Nat → Int32) (ot : Nat → Int32) (ev : Nat → Int32) (od : Nat → Int32) (image : Int32) (hn : n ≤ 10) (hhd : ∀ k : Nat, k < n → ¬ hd k = 8 → vp_in (hd k) 8) (sz : Nat) : Met l yX3_alike wsX3_alike ({ frames := 5, cells := 0, slots := 0, locals := 121 }) (va_Pc [.ref (h 0), .int image] (cPre D (tM h cA) (wM h cA (nI n) hd fi un on may asd tx td kp ko ka tr pat pfr rhd rif rul prr prm rd bb nw ot ev od) sz)) (va_Qi (fun (r : Int32) (u : (Nat → Int32) × (Nat → Int32) × (Nat → Int32) × (Nat → Int32)) => r = s_X3_alike n hd fi un may on asd nw ot kp ko ka image) (rwB D (fun u : (Nat → Int32) × (Nat → Int32) × (Nat → Int32) × (Nat → Int32) => (wM h cA (nI n) hd fi un on may asd tx td kp ko ka tr pat pfr rhd rif rul prr prm u.1 u.2.1 u.2.2.1 u.2.2.2 ev od)) (va_A (wM h cA (nI n) hd fi un on may asd tx td kp ko ka tr pat pfr rhd rif rul prr prm rd bb nw ot ev od) sz)) (va_A (wM h cA (nI n) hd fi un on may asd tx td kp ko ka tr pat pfr rhd rif rul prr prm rd bb nw ot ev od) sz)) 0 0 (va_A (wM h cA (nI n) hd fi un on may asd tx td kp ko ka tr pat pfr rhd rif rul prr prm rd bb nw ot ev od) sz) := by
  refine Met.ofW (cc := cX3_alike) (maxL := 2) (ret := (some .int)) (by decide) rfl ?_
  intro p e s m args below meth c s₁ B hml hv
  obtain ⟨rfl, hsz, hP, hK, hD, hN⟩ := hv
  have hx := B.exec
  have hb := B.bytes
  have hr := B.returns
  have hts := atoms_spec (ws := wsX3_alike) B.pre
  have hown : s.vm.findClass RX3 = some m.cls := findClass_of_methodNamed B.named
  have hlocks := B.notSynchronized
  have hinX3 : ∀ w ∈ wsX30, w ∈ wsX3_alike := fun w h => List.mem_cons_of_mem _ (List.mem_append_right _ h)
  subst hsz
  replace hD := hD.self (sz := s.heap.size)
  generalize hAe : va_A (wM h cA (nI n) hd fi un on may asd tx td kp ko ka tr pat pfr rhd rif rul prr prm rd bb nw ot ev od) s.heap.size = A at hD ⊢
  have hA : ∀ q : Nat, s.heap.size ≤ q → A q := fun q h => by rw [← hAe]; exact Or.inr h
  have hS : va_S A s.heap s.heap [] := va_S.rf
  have hl := lv_entry ([.ref (h 0), .int image]) (n := 2) (Nat.le_of_ble_eq_true rfl)
  rw [lg_entry_eq]
  generalize (lg_sl ([.ref (h 0), .int image]) ++ List.replicate (2 - (lg_sl ([.ref (h 0), .int image])).length) Slot.unset).toArray = ls at hl ⊢
  replace hl : lv_has ls 2 [(0, .ref (h 0)), (1, .int image)] := hl
  have hKe := hK.sub (tys' := []) [] rfl
  refine lv_iload_n hx hb dX3_alike_0 rfl (lv_at hl 1 rfl) ?_
  refine lv_i2l hx hb dX3_alike_1 rfl ?_
  refine lv_lconst (v := 0) hx hb dX3_alike_2 (by decide) ?_
  refine lv_lconst (v := 1) hx hb dX3_alike_3 (by decide) ?_
  refine ro_i (D := D) (va_runS (As := [.long ((image : Int32).toInt64), .long 0, .long 1]) (rest := []) ⟨hx, hb, hml, hown, hts⟩ (c_X3_in l D ((image : Int32).toInt64) 0 1  _) (va_cwS 3 hts gX3_alike_X3_in rfl rfl rfl (by decide +kernel) ⟨Nat.le_of_ble_eq_true rfl, Nat.le_of_ble_eq_true rfl⟩) ⟨cPre.blind, cPre.mk vP0 hKe vD0 hN⟩ rfl rfl hl.1 rfl (lv_room (Nat.le_of_ble_eq_true rfl)) dX3_alike_4 ⟨Nat.zero_le _, Nat.zero_le _⟩) hS hA (fun H locs hkp0 hS => ?_)
  replace hP := hkp0 _ hP
  refine lv_if_ne (tgt := 12) hx hb dX3_alike_7 (by decide) (fun c_7_1 => ?_) (fun c_7_1 => ?_)
  · refine lv_aload_n hx hb dX3_alike_12 rfl (lv_at hl 0 rfl) ?_
    refine va_get (D := D) (ci := 3) (v := .ref (h 5)) (C := RX3) (T := TX3) (N := 26) hx hb hts hinX3 hown hK hP 0 rfl rfl 9 (by decide) (hts (.fieldLink RX3 22 "HoldUnlessModel" "isKept" "[Z") (by decide +kernel)) (fun _ h9 => h9) rfl dX3_alike_13 ?_
    refine lv_iload_n hx hb dX3_alike_16 rfl (lv_at hl 1 rfl) ?_
    refine va_zald hx hb hK hP 5 4 rfl rfl ((vp_inM (by decide) c_7_1)) dX3_alike_17 ?_
    refine lv_if_ne (tgt := 24) hx hb dX3_alike_18 (by decide) (fun c_18_2 => ?_) (fun c_18_2 => ?_)
    · refine lv_aload_n hx hb dX3_alike_24 rfl (lv_at hl 0 rfl) ?_
      refine lv_aload_n hx hb dX3_alike_25 rfl (lv_at hl 0 rfl) ?_
      refine va_get (D := D) (ci := 3) (v := .ref (h 6)) (C := RX3) (T := TX3) (N := 26) hx hb hts hinX3 hown hK hP 0 rfl rfl 10 (by decide) (hts (.fieldLink RX3 26 "HoldUnlessModel" "keptOn" "[I") (by decide +kernel)) (fun _ h9 => h9) rfl dX3_alike_26 ?_
      refine lv_iload_n hx hb dX3_alike_29 rfl (lv_at hl 1 rfl) ?_
      refine va_iald hx hb hK hP 6 5 rfl rfl ((vp_inM (by decide) c_7_1)) dX3_alike_30 ?_
      refine lv_aload_n hx hb dX3_alike_31 rfl (lv_at hl 0 rfl) ?_
      refine va_get (D := D) (ci := 3) (v := .ref (h 7)) (C := RX3) (T := TX3) (N := 26) hx hb hts hinX3 hown hK hP 0 rfl rfl 11 (by decide) (hts (.fieldLink RX3 29 "HoldUnlessModel" "keptAssumed" "[I") (by decide +kernel)) (fun _ h9 => h9) rfl dX3_alike_32 ?_
      refine lv_iload_n hx hb dX3_alike_35 rfl (lv_at hl 1 rfl) ?_
      refine va_iald hx hb hK hP 7 6 rfl rfl ((vp_inM (by decide) c_7_1)) dX3_alike_36 ?_
      have hFc := va_free (wc := (wM h cA (nI n) hd fi un on may asd tx td kp ko ka tr pat pfr rhd rif rul prr prm rd bb nw ot ev od)) hD hS hA [0, 1, 2, 3, 4, 5, 6, 7, 8, 9, 10, 11, 12, 13, 14, 15, 16] rfl
      refine rw_ie (D := D) (wc := (wM h cA (nI n) hd fi un on may asd tx td kp ko ka tr pat pfr rhd rif rul prr prm rd bb nw ot ev od)) (va_runV (As := [.int (ko image.toNatClampNeg), .int (ka image.toNatClampNeg)]) (rest := []) ⟨hx, hb, hml, hown, hts⟩ (c_X3_areSame l D h cA n hd fi un on may asd tx td kp ko ka tr pat pfr rhd rif rul prr prm rd bb nw ot ev od (ko image.toNatClampNeg) (ka image.toNatClampNeg) (by first | assumption | omega) hhd _) (cwV 2 hts gX3_alike_X3_areSame rfl rfl rfl (by decide +kernel) ⟨Nat.le_of_ble_eq_true rfl, Nat.le_of_ble_eq_true rfl⟩) ⟨cPre.blind, va_recv hK hP (ci := 3) (q0 := 0) rfl rfl, cPre.mk hP hK hD hN⟩ rfl rfl hl.1 rfl (lv_room (Nat.le_of_ble_eq_true rfl)) dX3_alike_37 ⟨Nat.zero_le _, Nat.zero_le _⟩) hS hFc (fun u H1 locs hP1 hD1 hk1 hS => ?_)
      obtain ⟨rdv_3, bbv_4, nwv_5, otv_6⟩ := u
      have hP : va_P D vwCl (wM h cA (nI n) hd fi un on may asd tx td kp ko ka tr pat pfr rhd rif rul prr prm rdv_3 bbv_4 nwv_5 otv_6 ev od) H1 := hP1
      have hD : va_D A (wM h cA (nI n) hd fi un on may asd tx td kp ko ka tr pat pfr rhd rif rul prr prm rdv_3 bbv_4 nwv_5 otv_6 ev od) := hD1.weaken (fun k q hk h => hFc _ h)
      clear hP1 hD1 hFc hk1
      generalize H1 = H at hP hS ⊢
      refine lv_if_eq (tgt := 47) hx hb dX3_alike_40 (by decide) (fun c_40_9 => ?_) (fun c_40_9 => ?_)
      · refine lv_iconst (v := 0) hx hb dX3_alike_47 (by decide) ?_
        exact rw_iret hx hb hr hS hlocks (rdv_3, bbv_4, nwv_5, otv_6) (show s_X3_alike n hd fi un may on asd nw ot kp ko ka image = 0 from by (unfold s_X3_alike; (try rw [if_neg c_7_1]); (try rw [if_neg c_18_2]); (try rw [if_pos c_40_9]); first | done | with_reducible rfl)).symm hP hD dX3_alike_48
      · refine lv_iconst (v := 1) hx hb dX3_alike_43 (by decide) ?_
        refine lv_goto (tgt := 48) hx hb dX3_alike_44 (by decide) ?_
        exact rw_iret hx hb hr hS hlocks (rdv_3, bbv_4, nwv_5, otv_6) (show s_X3_alike n hd fi un may on asd nw ot kp ko ka image = 1 from by (unfold s_X3_alike; (try rw [if_neg c_7_1]); (try rw [if_neg c_18_2]); (try rw [if_neg c_40_9]); first | done | with_reducible rfl)).symm hP hD dX3_alike_48
    · refine lv_bipush (v := (-2)) hx hb dX3_alike_21 (by decide) ?_
      exact rw_iret hx hb hr hS hlocks (rd, bb, nw, ot) (show s_X3_alike n hd fi un may on asd nw ot kp ko ka image = (-2) from by (unfold s_X3_alike; (try rw [if_neg c_7_1]); (try rw [if_pos c_18_2]); first | done | with_reducible rfl)).symm hP hD dX3_alike_23
  · refine lv_iconst (v := (-1)) hx hb dX3_alike_10 (by decide) ?_
    exact rw_iret hx hb hr hS hlocks (rd, bb, nw, ot) (show s_X3_alike n hd fi un may on asd nw ot kp ko ka image = (-1) from by (unfold s_X3_alike; (try rw [if_pos c_7_1]); first | done | with_reducible rfl)).symm hP hD dX3_alike_11

