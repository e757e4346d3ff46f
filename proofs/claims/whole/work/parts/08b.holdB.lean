theorem vp_image {k : Int32} (h : ¬ s_X2_isImage k = 0) : vp_in k 2 := by
  unfold s_X2_isImage at h
  by_cases h0 : k < 0
  · rw [if_pos h0] at h; exact absurd rfl h
  · rw [if_neg h0] at h
    by_cases h1 : (2 : Int32) ≤ k
    · rw [if_pos h1] at h; exact absurd rfl h
    · exact vp_of rfl h0 h1
theorem nI_toInt10 {n : Nat} (hn : n ≤ 10) : (nI n).toInt = (n : Int) := nI_toInt (by omega)
theorem vp_rule {n : Nat} {k : Int32} (h : ¬ s_X2_isRule n k = 0) (hn : n ≤ 10) : vp_in k 10 := by
  unfold s_X2_isRule at h
  by_cases h0 : k < 0
  · rw [if_pos h0] at h; exact absurd rfl h
  · rw [if_neg h0] at h
    by_cases h1 : nI n ≤ k
    · rw [if_pos h1] at h; exact absurd rfl h
    · have h2 := vp_of (nI_toInt10 hn) h0 h1
      rw [vp_in_iff] at h2 ⊢
      omega

def s_X2_rule (n : Nat) (hd : Nat → Int32) (fi : Nat → Int32) (un : Nat → Int32) (on : Int32) (k : Int32) (what : Int32) : Int32 := (if (s_X2_isRule n k) = 0 then (-1) else (if what = 0 then (hd k.toNatClampNeg) else (if what = 1 then (fi k.toNatClampNeg) else (if what = 2 then (un k.toNatClampNeg) else (if what = 3 then (s_X2_bitOf on k) else (-1))))))
set_option maxHeartbeats 4000000 in
set_option maxRecDepth 100000 in
theorem c_X2_rule (l : Launch) (D : va_G) (h : Nat → Nat) (cA : Nat → ClassId) (n : Nat) (by_ : Nat → Int32) (ln : Int32) (pl : Int32) (tk : Int32) (tp : Int32) (may : Int32) (hd : Nat → Int32) (fi : Nat → Int32) (un : Nat → Int32) (sz2 : Int32) (may2 : Int32) (hd2 : Nat → Int32) (fi2 : Nat → Int32) (un2 : Nat → Int32) (on : Int32) (asd : Int32) (io : Nat → Int32) (ia : Nat → Int32) (kept : Int32) (tr : Int64) (k : Int32) (what : Int32) (hn : n ≤ 10) (sz : Nat) : Met l yX2_rule wsX2_rule ({ frames := 1, cells := 0, slots := 0, locals := 21 }) (va_Pc [.ref (h 0), .int k, .int what] (cPre D (tX h cA) (wX h cA by_ ln pl tk tp (nI n) may hd fi un sz2 may2 hd2 fi2 un2 on asd io ia kept tr) sz)) (va_Qi (fun r (_ : Unit) => r = s_X2_rule n hd fi un on k what) (fun _ _ => True) (fun q => sz ≤ q)) 0 0 (fun q => sz ≤ q) := by
  refine Met.ofW (cc := cX2_rule) (maxL := 3) (ret := (some .int)) (by decide) rfl ?_
  intro p e s m args below meth c s₁ B hml hv
  obtain ⟨rfl, hsz, hP, hK, hD, hN⟩ := hv
  have hx := B.exec
  have hb := B.bytes
  have hr := B.returns
  have hts := atoms_spec (ws := wsX2_rule) B.pre
  have hown : s.vm.findClass RX2 = some m.cls := findClass_of_methodNamed B.named
  have hlocks := B.notSynchronized
  have hinX0 : ∀ w ∈ wsX00, w ∈ wsX2_rule := fun w h => List.mem_cons_of_mem _ (List.mem_append_right _ h)
  have hinX2 : ∀ w ∈ wsX20, w ∈ wsX2_rule := fun w h => List.mem_cons_of_mem _ (List.mem_append_left _ (List.mem_append_right _ h))
  subst hsz
  obtain ⟨A, hAe⟩ : ∃ A : Nat → Prop, A = (fun q : Nat => s.heap.size ≤ q) := ⟨_, rfl⟩
  have hA : ∀ q : Nat, s.heap.size ≤ q → A q := fun q h => by rw [hAe]; exact h
  have hS : va_S A s.heap s.heap [] := va_S.rf
  subst hAe
  have hl := lv_entry ([.ref (h 0), .int k, .int what]) (n := 3) (Nat.le_of_ble_eq_true rfl)
  rw [lg_entry_eq]
  generalize (lg_sl ([.ref (h 0), .int k, .int what]) ++ List.replicate (3 - (lg_sl ([.ref (h 0), .int k, .int what])).length) Slot.unset).toArray = ls at hl ⊢
  replace hl : lv_has ls 3 [(0, .ref (h 0)), (1, .int k), (2, .int what)] := hl
  have hKe := hK.sub (tys' := []) [] rfl
  refine lv_aload_n hx hb dX2_rule_0 rfl (lv_at hl 0 rfl) ?_
  refine lv_iload_n hx hb dX2_rule_1 rfl (lv_at hl 1 rfl) ?_
  refine ro_i (D := D) (va_runV (As := [.int k]) (rest := []) ⟨hx, hb, hml, hown, hts⟩ (c_X2_isRule l D h cA n by_ ln pl tk tp may hd fi un sz2 may2 hd2 fi2 un2 on asd io ia kept tr k (by first | assumption | omega) _) (cwV 1 hts gX2_rule_X2_isRule rfl rfl rfl (by decide +kernel) ⟨Nat.le_of_ble_eq_true rfl, Nat.le_of_ble_eq_true rfl⟩) ⟨cPre.blind, va_recv hK hP (ci := 2) (q0 := 0) rfl rfl, cPre.mk hP hK hD hN⟩ rfl rfl hl.1 rfl (lv_room (Nat.le_of_ble_eq_true rfl)) dX2_rule_2 ⟨Nat.zero_le _, Nat.zero_le _⟩) hS hA (fun H locs hkp0 hS => ?_)
  replace hP := hkp0 _ hP
  refine lv_if_ne (tgt := 10) hx hb dX2_rule_5 (by decide) (fun c_5_1 => ?_) (fun c_5_1 => ?_)
  · refine lv_iload_n hx hb dX2_rule_10 rfl (lv_at hl 2 rfl) ?_
    by_cases k_11_2 : what = 0
    · refine lv_tableIn (tgt := 40) hx hb dX2_rule_11 (by rw [k_11_2]; decide) (by rw [k_11_2]; decide) (by rw [k_11_2]; rfl) (by decide) ?_
      refine lv_aload_n hx hb dX2_rule_40 rfl (lv_at hl 0 rfl) ?_
      refine va_get (D := D) (ci := 2) (v := .ref (h 3)) (C := RX2) (T := TX2) (N := 9) hx hb hts hinX2 hown hK hP 0 rfl rfl 1 (by decide) (hts (.fieldLink RX2 19 "HoldUnless" "book" "LHoldUnless$RuleBook;") (by decide +kernel)) (fun _ h9 => h9) rfl dX2_rule_41 ?_
      refine va_getN (D := D) (ci := 0) (v := .ref (h 4)) (C := RX0) (T := TX0) (N := 5) hx hb hts hinX0 hown hK hP 3 rfl rfl 2 (by decide) (hN.use 21 rfl) (fun _ h9 => h9) rfl dX2_rule_44 ?_
      refine lv_iload_n hx hb dX2_rule_47 rfl (lv_at hl 1 rfl) ?_
      refine va_iald hx hb hK hP 4 1 rfl rfl ((vp_rule c_5_1 hn)) dX2_rule_48 ?_
      exact ro_iret hx hb hr hS hlocks (show s_X2_rule n hd fi un on k what = (hd k.toNatClampNeg) from by (unfold s_X2_rule; (try dsimp only); (try rw [if_neg c_5_1]); (try rw [if_pos k_11_2]); first | done | rfl)).symm dX2_rule_49
    · by_cases k_11_3 : what = 1
      · refine lv_tableIn (tgt := 50) hx hb dX2_rule_11 (by rw [k_11_3]; decide) (by rw [k_11_3]; decide) (by rw [k_11_3]; rfl) (by decide) ?_
        refine lv_aload_n hx hb dX2_rule_50 rfl (lv_at hl 0 rfl) ?_
        refine va_get (D := D) (ci := 2) (v := .ref (h 3)) (C := RX2) (T := TX2) (N := 9) hx hb hts hinX2 hown hK hP 0 rfl rfl 1 (by decide) (hts (.fieldLink RX2 19 "HoldUnless" "book" "LHoldUnless$RuleBook;") (by decide +kernel)) (fun _ h9 => h9) rfl dX2_rule_51 ?_
        refine va_getN (D := D) (ci := 0) (v := .ref (h 5)) (C := RX0) (T := TX0) (N := 5) hx hb hts hinX0 hown hK hP 3 rfl rfl 3 (by decide) (hN.use 22 rfl) (fun _ h9 => h9) rfl dX2_rule_54 ?_
        refine lv_iload_n hx hb dX2_rule_57 rfl (lv_at hl 1 rfl) ?_
        refine va_iald hx hb hK hP 5 2 rfl rfl ((vp_rule c_5_1 hn)) dX2_rule_58 ?_
        exact ro_iret hx hb hr hS hlocks (show s_X2_rule n hd fi un on k what = (fi k.toNatClampNeg) from by (unfold s_X2_rule; (try dsimp only); (try rw [if_neg c_5_1]); (try rw [if_neg k_11_2]); (try rw [if_pos k_11_3]); first | done | rfl)).symm dX2_rule_59
      · by_cases k_11_4 : what = 2
        · refine lv_tableIn (tgt := 60) hx hb dX2_rule_11 (by rw [k_11_4]; decide) (by rw [k_11_4]; decide) (by rw [k_11_4]; rfl) (by decide) ?_
          refine lv_aload_n hx hb dX2_rule_60 rfl (lv_at hl 0 rfl) ?_
          refine va_get (D := D) (ci := 2) (v := .ref (h 3)) (C := RX2) (T := TX2) (N := 9) hx hb hts hinX2 hown hK hP 0 rfl rfl 1 (by decide) (hts (.fieldLink RX2 19 "HoldUnless" "book" "LHoldUnless$RuleBook;") (by decide +kernel)) (fun _ h9 => h9) rfl dX2_rule_61 ?_
          refine va_getN (D := D) (ci := 0) (v := .ref (h 6)) (C := RX0) (T := TX0) (N := 5) hx hb hts hinX0 hown hK hP 3 rfl rfl 4 (by decide) (hN.use 23 rfl) (fun _ h9 => h9) rfl dX2_rule_64 ?_
          refine lv_iload_n hx hb dX2_rule_67 rfl (lv_at hl 1 rfl) ?_
          refine va_iald hx hb hK hP 6 3 rfl rfl ((vp_rule c_5_1 hn)) dX2_rule_68 ?_
          exact ro_iret hx hb hr hS hlocks (show s_X2_rule n hd fi un on k what = (un k.toNatClampNeg) from by (unfold s_X2_rule; (try dsimp only); (try rw [if_neg c_5_1]); (try rw [if_neg k_11_2]); (try rw [if_neg k_11_3]); (try rw [if_pos k_11_4]); first | done | rfl)).symm dX2_rule_69
        · by_cases k_11_5 : what = 3
          · refine lv_tableIn (tgt := 70) hx hb dX2_rule_11 (by rw [k_11_5]; decide) (by rw [k_11_5]; decide) (by rw [k_11_5]; rfl) (by decide) ?_
            refine lv_aload_n hx hb dX2_rule_70 rfl (lv_at hl 0 rfl) ?_
            refine va_get (D := D) (ci := 2) (v := .int on) (C := RX2) (T := TX2) (N := 9) hx hb hts hinX2 hown hK hP 0 rfl rfl 3 (by decide) (hts (.fieldLink RX2 51 "HoldUnless" "on" "I") (by decide +kernel)) (fun _ h9 => h9) rfl dX2_rule_71 ?_
            refine lv_iload_n hx hb dX2_rule_74 rfl (lv_at hl 1 rfl) ?_
            refine ro_i (D := D) (va_runS (As := [.int on, .int k]) (rest := []) ⟨hx, hb, hml, hown, hts⟩ (c_X2_bitOf l D on k  _) (va_cwS 2 hts gX2_rule_X2_bitOf rfl rfl rfl (by decide +kernel) ⟨Nat.le_of_ble_eq_true rfl, Nat.le_of_ble_eq_true rfl⟩) ⟨cPre.blind, cPre.mk vP0 hKe vD0 hN⟩ rfl rfl hl.1 rfl (lv_room (Nat.le_of_ble_eq_true rfl)) dX2_rule_75 ⟨Nat.zero_le _, Nat.zero_le _⟩) hS hA (fun H locs hkp0 hS => ?_)
            replace hP := hkp0 _ hP
            exact ro_iret hx hb hr hS hlocks (show s_X2_rule n hd fi un on k what = (s_X2_bitOf on k) from by (unfold s_X2_rule; (try dsimp only); (try rw [if_neg c_5_1]); (try rw [if_neg k_11_2]); (try rw [if_neg k_11_3]); (try rw [if_neg k_11_4]); (try rw [if_pos k_11_5]); first | done | rfl)).symm dX2_rule_78
          · have ne_6 := lv_neT (a := 0) k_11_2 (by decide)
            have ne_7 := lv_neT (a := 1) k_11_3 (by decide)
            have ne_8 := lv_neT (a := 2) k_11_4 (by decide)
            have ne_9 := lv_neT (a := 3) k_11_5 (by decide)
            refine lv_tableOut (tgt := 79) hx hb dX2_rule_11 (by omega) (by decide) ?_
            refine lv_iconst (v := (-1)) hx hb dX2_rule_79 (by decide) ?_
            exact ro_iret hx hb hr hS hlocks (show s_X2_rule n hd fi un on k what = (-1) from by (unfold s_X2_rule; (try dsimp only); (try rw [if_neg c_5_1]); (try rw [if_neg k_11_2]); (try rw [if_neg k_11_3]); (try rw [if_neg k_11_4]); (try rw [if_neg k_11_5]); first | done | rfl)).symm dX2_rule_80
  · refine lv_iconst (v := (-1)) hx hb dX2_rule_8 (by decide) ?_
    exact ro_iret hx hb hr hS hlocks (show s_X2_rule n hd fi un on k what = (-1) from by (unfold s_X2_rule; (try dsimp only); (try rw [if_pos c_5_1]); first | done | rfl)).symm dX2_rule_9

def f_X2_sets_4 (n : Nat) (may : Int32) (hd : Nat → Int32) (fi : Nat → Int32) (un : Nat → Int32) (on : Int32) (asd : Int32) (j4 : Nat) (st : Int32) : Int32 := match st with | many => (if (s_X0_upholds n may hd fi un (nI j4) on asd) = 0 then many else (many + 1))
def s_X2_sets (n : Nat) (may : Int32) (hd : Nat → Int32) (fi : Nat → Int32) (un : Nat → Int32) (on : Int32) (asd : Int32) : Int32 := (match itr (f_X2_sets_4 n may hd fi un on asd) 0 256 with | many => many)
set_option maxHeartbeats 4000000 in
set_option maxRecDepth 100000 in
theorem c_X2_sets (l : Launch) (D : va_G) (h : Nat → Nat) (cA : Nat → ClassId) (n : Nat) (by_ : Nat → Int32) (ln : Int32) (pl : Int32) (tk : Int32) (tp : Int32) (may : Int32) (hd : Nat → Int32) (fi : Nat → Int32) (un : Nat → Int32) (sz2 : Int32) (may2 : Int32) (hd2 : Nat → Int32) (fi2 : Nat → Int32) (un2 : Nat → Int32) (on : Int32) (asd : Int32) (io : Nat → Int32) (ia : Nat → Int32) (kept : Int32) (tr : Int64) (hn : n ≤ 10) (sz : Nat) : Met l yX2_sets wsX2_sets ({ frames := 4, cells := 0, slots := 0, locals := 97 }) (va_Pc [.ref (h 0)] (cPre D (tX h cA) (wX h cA by_ ln pl tk tp (nI n) may hd fi un sz2 may2 hd2 fi2 un2 on asd io ia kept tr) sz)) (va_Qi (fun r (_ : Unit) => r = s_X2_sets n may hd fi un on asd) (fun _ _ => True) (fun q => sz ≤ q)) 0 0 (fun q => sz ≤ q) := by
  refine Met.ofW (cc := cX2_sets) (maxL := 3) (ret := (some .int)) (by decide) rfl ?_
  intro p e s m args below meth c s₁ B hml hv
  obtain ⟨rfl, hsz, hP, hK, hD, hN⟩ := hv
  have hx := B.exec
  have hb := B.bytes
  have hr := B.returns
  have hts := atoms_spec (ws := wsX2_sets) B.pre
  have hown : s.vm.findClass RX2 = some m.cls := findClass_of_methodNamed B.named
  have hlocks := B.notSynchronized
  have hinX2 : ∀ w ∈ wsX20, w ∈ wsX2_sets := fun w h => List.mem_cons_of_mem _ (List.mem_append_left _ (List.mem_append_right _ h))
  subst hsz
  obtain ⟨A, hAe⟩ : ∃ A : Nat → Prop, A = (fun q : Nat => s.heap.size ≤ q) := ⟨_, rfl⟩
  have hA : ∀ q : Nat, s.heap.size ≤ q → A q := fun q h => by rw [hAe]; exact h
  have hS : va_S A s.heap s.heap [] := va_S.rf
  subst hAe
  have hl := lv_entry ([.ref (h 0)]) (n := 3) (Nat.le_of_ble_eq_true rfl)
  rw [lg_entry_eq]
  generalize (lg_sl ([.ref (h 0)]) ++ List.replicate (3 - (lg_sl ([.ref (h 0)])).length) Slot.unset).toArray = ls at hl ⊢
  replace hl : lv_has ls 3 [(0, .ref (h 0))] := hl
  have hKe := hK.sub (tys' := []) [] rfl
  refine lv_iconst (v := 0) hx hb dX2_sets_0 (by decide) ?_
  refine lv_istore_n (lv' := [(1, .int 0), (0, .ref (h 0))]) hx hb dX2_sets_1 rfl hl (by decide) rfl (fun ls hl => ?_)
  refine lv_iconst (v := 0) hx hb dX2_sets_2 (by decide) ?_
  refine lv_istore_n (lv' := [(2, .int 0), (1, .int 0), (0, .ref (h 0))]) hx hb dX2_sets_3 rfl hl (by decide) rfl (fun ls hl => ?_)
  have lp4_1 : ∀ (z_1 j4 : Nat), j4 + z_1 = 256 → ∀ (many : Int32), many = itr (f_X2_sets_4 n may hd fi un on asd) 0 j4 → ∀  (H : Heap) (locs : List Loc), va_P D vwCl (wX h cA by_ ln pl tk tp (nI n) may hd fi un sz2 may2 hd2 fi2 un2 on asd io ia kept tr) H → va_S (fun q : Nat => s.heap.size ≤ q) s.heap H locs → ∀ ls : Array Slot, lv_has ls 3 [(0, .ref (h 0)), (1, .int many), (2, .int (nI j4))] → W p l e (headSpec wsX2_sets ({ frames := 4, cells := 0, slots := 0, locals := 97 })).room s m ([.ref (h 0)] : List Value).toArray below meth c H locs 0 0 (MQ below (va_Qi (fun r (_ : Unit) => r = s_X2_sets n may hd fi un on asd) (fun _ _ => True) (fun q => s.heap.size ≤ q)) ([.ref (h 0)] : List Value).toArray s 0 0 (fun q => s.heap.size ≤ q)) (F0 m 4 ls []) := by
    intro z_1
    induction z_1 with
    | zero =>
      intro j4 hj4 many he4   H locs hP hS ls hl
      obtain rfl : 256 = j4 := by omega
      refine lv_iload_n hx hb dX2_sets_4 rfl (lv_at hl 2 rfl) ?_
      refine lv_sipush (v := 255) hx hb dX2_sets_5 (by decide) ?_
      refine lv_icmp_gt (tgt := 39) hx hb dX2_sets_8 (by decide) (fun _ => ?_) (fun hh_3 => absurd (nI_lt (a := 255) (b := 256) (by omega) (by omega)) hh_3)
      refine lv_iload_n hx hb dX2_sets_39 rfl (lv_at hl 1 rfl) ?_
      exact ro_iret hx hb hr hS hlocks (show s_X2_sets n may hd fi un on asd = many from by (unfold s_X2_sets; (try dsimp only); (try rw [← he4]); (try dsimp only); first | done | rfl)).symm dX2_sets_40
    | succ z_1 ih4 =>
      intro j4 hj4 many he4   H locs hP hS ls hl
      refine lv_iload_n hx hb dX2_sets_4 rfl (lv_at hl 2 rfl) ?_
      refine lv_sipush (v := 255) hx hb dX2_sets_5 (by decide) ?_
      refine lv_icmp_gt (tgt := 39) hx hb dX2_sets_8 (by decide) (fun hh_5 => absurd hh_5 (nI_nlt (a := 255) (b := j4) (by omega) (by omega))) (fun _ => ?_)
      refine lv_aload_n hx hb dX2_sets_11 rfl (lv_at hl 0 rfl) ?_
      refine va_get (D := D) (ci := 2) (v := .ref (h 3)) (C := RX2) (T := TX2) (N := 9) hx hb hts hinX2 hown hK hP 0 rfl rfl 1 (by decide) (hts (.fieldLink RX2 19 "HoldUnless" "book" "LHoldUnless$RuleBook;") (by decide +kernel)) (fun _ h9 => h9) rfl dX2_sets_12 ?_
      refine lv_iload_n hx hb dX2_sets_15 rfl (lv_at hl 2 rfl) ?_
      refine lv_aload_n hx hb dX2_sets_16 rfl (lv_at hl 0 rfl) ?_
      refine va_get (D := D) (ci := 2) (v := .int on) (C := RX2) (T := TX2) (N := 9) hx hb hts hinX2 hown hK hP 0 rfl rfl 3 (by decide) (hts (.fieldLink RX2 51 "HoldUnless" "on" "I") (by decide +kernel)) (fun _ h9 => h9) rfl dX2_sets_17 ?_
      refine lv_aload_n hx hb dX2_sets_20 rfl (lv_at hl 0 rfl) ?_
      refine va_get (D := D) (ci := 2) (v := .int asd) (C := RX2) (T := TX2) (N := 9) hx hb hts hinX2 hown hK hP 0 rfl rfl 4 (by decide) (hts (.fieldLink RX2 54 "HoldUnless" "assumed" "I") (by decide +kernel)) (fun _ h9 => h9) rfl dX2_sets_21 ?_
      have hPc := hP.sub (ws' := (wB (h 3) (h 4) (h 5) (h 6) (cA 4) (cA 5) (cA 6) (nI n) may hd fi un)) [3, 4, 5, 6] rfl
      have hDc := hD.sub (ws' := (wB (h 3) (h 4) (h 5) (h 6) (cA 4) (cA 5) (cA 6) (nI n) may hd fi un)) [3, 4, 5, 6] (by decide) rfl
      have hKc := hK.sub (tys' := (tB (h 3) (h 4) (h 5) (h 6) (cA 4) (cA 5) (cA 6))) [1, 2, 3] rfl
      refine ro_i (D := D) (va_runVN (As := [.int (nI j4), .int on, .int asd]) (rest := []) ⟨hx, hb, hml, hown, hts⟩ (c_X0_upholds l D (h 3) (h 4) (h 5) (h 6) (cA 4) (cA 5) (cA 6) n may hd fi un (nI j4) on asd (by first | assumption | omega) _) ⟨(va_cnB 3 hts gX2_sets_X0_upholds_n87 rfl rfl rfl (hN.nw 8 rfl) (hts (.initialized RX0) (by decide +kernel)) (by decide +kernel) ⟨Nat.le_of_ble_eq_true rfl, Nat.le_of_ble_eq_true rfl⟩), hts (.instanceMethod yX0_upholds) (by decide +kernel), hts (.selects RX0 yX0_upholds yX0_upholds) (by decide +kernel)⟩ ⟨cPre.blind, va_recv hKc hPc (ci := 0) (q0 := 0) rfl rfl, cPre.mk hPc hKc hDc hN⟩ rfl rfl hl.1 rfl (lv_room (Nat.le_of_ble_eq_true rfl)) dX2_sets_24 ⟨Nat.zero_le _, Nat.zero_le _⟩) hS hA (fun H locs hkp0 hS => ?_)
      replace hP := hkp0 _ hP
      refine lv_if_eq (tgt := 33) hx hb dX2_sets_27 (by decide) (fun c_27_6 => ?_) (fun c_27_6 => ?_)
      · refine lv_iinc (v := nI (j4 + 1)) (lv' := [(2, .int (nI (j4 + 1))), (0, .ref (h 0)), (1, .int many)]) hx hb dX2_sets_33 hl (k := 2) rfl (inc_nI j4) (by decide) rfl (fun ls hl => ?_)
        refine lv_goto (tgt := 4) hx hb dX2_sets_36 (by decide) ?_
        exact ih4 (j4 + 1) (by omega) many (itr_step he4 (by (unfold f_X2_sets_4; (try dsimp only); (try rw [if_pos c_27_6]); first | done | rfl)))   _ _ hP hS _ (lv_sub hl [1, 2, 0] rfl)
      · refine lv_iinc (v := (many + 1)) (lv' := [(1, .int (many + 1)), (0, .ref (h 0)), (2, .int (nI j4))]) hx hb dX2_sets_30 hl (k := 1) rfl rfl (by decide) rfl (fun ls hl => ?_)
        refine lv_iinc (v := nI (j4 + 1)) (lv' := [(2, .int (nI (j4 + 1))), (1, .int (many + 1)), (0, .ref (h 0))]) hx hb dX2_sets_33 hl (k := 2) rfl (inc_nI j4) (by decide) rfl (fun ls hl => ?_)
        refine lv_goto (tgt := 4) hx hb dX2_sets_36 (by decide) ?_
        exact ih4 (j4 + 1) (by omega) (many + 1) (itr_step he4 (by (unfold f_X2_sets_4; (try dsimp only); (try rw [if_neg c_27_6]); first | done | rfl)))   _ _ hP hS _ (lv_sub hl [2, 1, 0] rfl)
  exact lp4_1 256 0 (by omega) 0 (itr_zero _ _).symm   _ _ hP hS _ (lv_sub hl [2, 1, 0] rfl)

def f_X2_standingSet_4 (n : Nat) (may : Int32) (hd : Nat → Int32) (fi : Nat → Int32) (un : Nat → Int32) (on : Int32) (asd : Int32) (i : Int32) (j4 : Nat) (st : Int32) : Int32 ⊕ (Int32) := match st with | ahead => (if (s_X0_upholds n may hd fi un (nI j4) on asd) = 0 then (.inr ahead) else (if ahead = i then (.inl (nI j4)) else (.inr (ahead + 1))))
def s_X2_standingSet (n : Nat) (may : Int32) (hd : Nat → Int32) (fi : Nat → Int32) (un : Nat → Int32) (on : Int32) (asd : Int32) (i : Int32) : Int32 := (onE (itE (f_X2_standingSet_4 n may hd fi un on asd i) 0 256) (fun st => match st with | ahead => (-9)))
set_option maxHeartbeats 4000000 in
set_option maxRecDepth 100000 in
theorem c_X2_standingSet (l : Launch) (D : va_G) (h : Nat → Nat) (cA : Nat → ClassId) (n : Nat) (by_ : Nat → Int32) (ln : Int32) (pl : Int32) (tk : Int32) (tp : Int32) (may : Int32) (hd : Nat → Int32) (fi : Nat → Int32) (un : Nat → Int32) (sz2 : Int32) (may2 : Int32) (hd2 : Nat → Int32) (fi2 : Nat → Int32) (un2 : Nat → Int32) (on : Int32) (asd : Int32) (io : Nat → Int32) (ia : Nat → Int32) (kept : Int32) (tr : Int64) (i : Int32) (hn : n ≤ 10) (sz : Nat) : Met l yX2_standingSet wsX2_standingSet ({ frames := 4, cells := 0, slots := 0, locals := 97 }) (va_Pc [.ref (h 0), .int i] (cPre D (tX h cA) (wX h cA by_ ln pl tk tp (nI n) may hd fi un sz2 may2 hd2 fi2 un2 on asd io ia kept tr) sz)) (va_Qi (fun r (_ : Unit) => r = s_X2_standingSet n may hd fi un on asd i) (fun _ _ => True) (fun q => sz ≤ q)) 0 0 (fun q => sz ≤ q) := by
  refine Met.ofW (cc := cX2_standingSet) (maxL := 4) (ret := (some .int)) (by decide) rfl ?_
  intro p e s m args below meth c s₁ B hml hv
  obtain ⟨rfl, hsz, hP, hK, hD, hN⟩ := hv
  have hx := B.exec
  have hb := B.bytes
  have hr := B.returns
  have hts := atoms_spec (ws := wsX2_standingSet) B.pre
  have hown : s.vm.findClass RX2 = some m.cls := findClass_of_methodNamed B.named
  have hlocks := B.notSynchronized
  have hinX2 : ∀ w ∈ wsX20, w ∈ wsX2_standingSet := fun w h => List.mem_cons_of_mem _ (List.mem_append_left _ (List.mem_append_right _ h))
  subst hsz
  obtain ⟨A, hAe⟩ : ∃ A : Nat → Prop, A = (fun q : Nat => s.heap.size ≤ q) := ⟨_, rfl⟩
  have hA : ∀ q : Nat, s.heap.size ≤ q → A q := fun q h => by rw [hAe]; exact h
  have hS : va_S A s.heap s.heap [] := va_S.rf
  subst hAe
  have hl := lv_entry ([.ref (h 0), .int i]) (n := 4) (Nat.le_of_ble_eq_true rfl)
  rw [lg_entry_eq]
  generalize (lg_sl ([.ref (h 0), .int i]) ++ List.replicate (4 - (lg_sl ([.ref (h 0), .int i])).length) Slot.unset).toArray = ls at hl ⊢
  replace hl : lv_has ls 4 [(0, .ref (h 0)), (1, .int i)] := hl
  have hKe := hK.sub (tys' := []) [] rfl
  refine lv_iconst (v := 0) hx hb dX2_standingSet_0 (by decide) ?_
  refine lv_istore_n (lv' := [(2, .int 0), (0, .ref (h 0)), (1, .int i)]) hx hb dX2_standingSet_1 rfl hl (by decide) rfl (fun ls hl => ?_)
  refine lv_iconst (v := 0) hx hb dX2_standingSet_2 (by decide) ?_
  refine lv_istore_n (lv' := [(3, .int 0), (2, .int 0), (0, .ref (h 0)), (1, .int i)]) hx hb dX2_standingSet_3 rfl hl (by decide) rfl (fun ls hl => ?_)
  have lp4_1 : ∀ (z_1 j4 : Nat), j4 + z_1 = 256 → ∀ (ahead : Int32), itE (f_X2_standingSet_4 n may hd fi un on asd i) 0 j4 = .inr ahead → ∀  (H : Heap) (locs : List Loc), va_P D vwCl (wX h cA by_ ln pl tk tp (nI n) may hd fi un sz2 may2 hd2 fi2 un2 on asd io ia kept tr) H → va_S (fun q : Nat => s.heap.size ≤ q) s.heap H locs → ∀ ls : Array Slot, lv_has ls 4 [(0, .ref (h 0)), (1, .int i), (2, .int ahead), (3, .int (nI j4))] → W p l e (headSpec wsX2_standingSet ({ frames := 4, cells := 0, slots := 0, locals := 97 })).room s m ([.ref (h 0), .int i] : List Value).toArray below meth c H locs 0 0 (MQ below (va_Qi (fun r (_ : Unit) => r = s_X2_standingSet n may hd fi un on asd i) (fun _ _ => True) (fun q => s.heap.size ≤ q)) ([.ref (h 0), .int i] : List Value).toArray s 0 0 (fun q => s.heap.size ≤ q)) (F0 m 4 ls []) := by
    intro z_1
    induction z_1 with
    | zero =>
      intro j4 hj4 ahead he4   H locs hP hS ls hl
      obtain rfl : 256 = j4 := by omega
      refine lv_iload_n hx hb dX2_standingSet_4 rfl (lv_at hl 3 rfl) ?_
      refine lv_sipush (v := 255) hx hb dX2_standingSet_5 (by decide) ?_
      refine lv_icmp_gt (tgt := 46) hx hb dX2_standingSet_8 (by decide) (fun _ => ?_) (fun hh_3 => absurd (nI_lt (a := 255) (b := 256) (by omega) (by omega)) hh_3)
      refine lv_bipush (v := (-9)) hx hb dX2_standingSet_46 (by decide) ?_
      exact ro_iret hx hb hr hS hlocks (show s_X2_standingSet n may hd fi un on asd i = (-9) from by (unfold s_X2_standingSet; (try dsimp only); (try rw [he4]); (try dsimp only [onE]); first | done | rfl)).symm dX2_standingSet_48
    | succ z_1 ih4 =>
      intro j4 hj4 ahead he4   H locs hP hS ls hl
      refine lv_iload_n hx hb dX2_standingSet_4 rfl (lv_at hl 3 rfl) ?_
      refine lv_sipush (v := 255) hx hb dX2_standingSet_5 (by decide) ?_
      refine lv_icmp_gt (tgt := 46) hx hb dX2_standingSet_8 (by decide) (fun hh_5 => absurd hh_5 (nI_nlt (a := 255) (b := j4) (by omega) (by omega))) (fun _ => ?_)
      refine lv_aload_n hx hb dX2_standingSet_11 rfl (lv_at hl 0 rfl) ?_
      refine va_get (D := D) (ci := 2) (v := .ref (h 3)) (C := RX2) (T := TX2) (N := 9) hx hb hts hinX2 hown hK hP 0 rfl rfl 1 (by decide) (hts (.fieldLink RX2 19 "HoldUnless" "book" "LHoldUnless$RuleBook;") (by decide +kernel)) (fun _ h9 => h9) rfl dX2_standingSet_12 ?_
      refine lv_iload_n hx hb dX2_standingSet_15 rfl (lv_at hl 3 rfl) ?_
      refine lv_aload_n hx hb dX2_standingSet_16 rfl (lv_at hl 0 rfl) ?_
      refine va_get (D := D) (ci := 2) (v := .int on) (C := RX2) (T := TX2) (N := 9) hx hb hts hinX2 hown hK hP 0 rfl rfl 3 (by decide) (hts (.fieldLink RX2 51 "HoldUnless" "on" "I") (by decide +kernel)) (fun _ h9 => h9) rfl dX2_standingSet_17 ?_
      refine lv_aload_n hx hb dX2_standingSet_20 rfl (lv_at hl 0 rfl) ?_
      refine va_get (D := D) (ci := 2) (v := .int asd) (C := RX2) (T := TX2) (N := 9) hx hb hts hinX2 hown hK hP 0 rfl rfl 4 (by decide) (hts (.fieldLink RX2 54 "HoldUnless" "assumed" "I") (by decide +kernel)) (fun _ h9 => h9) rfl dX2_standingSet_21 ?_
      have hPc := hP.sub (ws' := (wB (h 3) (h 4) (h 5) (h 6) (cA 4) (cA 5) (cA 6) (nI n) may hd fi un)) [3, 4, 5, 6] rfl
      have hDc := hD.sub (ws' := (wB (h 3) (h 4) (h 5) (h 6) (cA 4) (cA 5) (cA 6) (nI n) may hd fi un)) [3, 4, 5, 6] (by decide) rfl
      have hKc := hK.sub (tys' := (tB (h 3) (h 4) (h 5) (h 6) (cA 4) (cA 5) (cA 6))) [1, 2, 3] rfl
      refine ro_i (D := D) (va_runVN (As := [.int (nI j4), .int on, .int asd]) (rest := []) ⟨hx, hb, hml, hown, hts⟩ (c_X0_upholds l D (h 3) (h 4) (h 5) (h 6) (cA 4) (cA 5) (cA 6) n may hd fi un (nI j4) on asd (by first | assumption | omega) _) ⟨(va_cnB 3 hts gX2_standingSet_X0_upholds_n87 rfl rfl rfl (hN.nw 8 rfl) (hts (.initialized RX0) (by decide +kernel)) (by decide +kernel) ⟨Nat.le_of_ble_eq_true rfl, Nat.le_of_ble_eq_true rfl⟩), hts (.instanceMethod yX0_upholds) (by decide +kernel), hts (.selects RX0 yX0_upholds yX0_upholds) (by decide +kernel)⟩ ⟨cPre.blind, va_recv hKc hPc (ci := 0) (q0 := 0) rfl rfl, cPre.mk hPc hKc hDc hN⟩ rfl rfl hl.1 rfl (lv_room (Nat.le_of_ble_eq_true rfl)) dX2_standingSet_24 ⟨Nat.zero_le _, Nat.zero_le _⟩) hS hA (fun H locs hkp0 hS => ?_)
      replace hP := hkp0 _ hP
      refine lv_if_eq (tgt := 40) hx hb dX2_standingSet_27 (by decide) (fun c_27_6 => ?_) (fun c_27_6 => ?_)
      · refine lv_iinc (v := nI (j4 + 1)) (lv' := [(3, .int (nI (j4 + 1))), (0, .ref (h 0)), (1, .int i), (2, .int ahead)]) hx hb dX2_standingSet_40 hl (k := 3) rfl (inc_nI j4) (by decide) rfl (fun ls hl => ?_)
        refine lv_goto (tgt := 4) hx hb dX2_standingSet_43 (by decide) ?_
        exact ih4 (j4 + 1) (by omega) ahead (itE_succ he4 (by (unfold f_X2_standingSet_4; (try dsimp only); (try rw [if_pos c_27_6]); first | done | rfl)))   _ _ hP hS _ (lv_sub hl [1, 2, 3, 0] rfl)
      · refine lv_iload_n hx hb dX2_standingSet_30 rfl (lv_at hl 2 rfl) ?_
        refine lv_iload_n hx hb dX2_standingSet_31 rfl (lv_at hl 1 rfl) ?_
        refine lv_icmp_ne (tgt := 37) hx hb dX2_standingSet_32 (by decide) (fun c_32_7 => ?_) (fun c_32_7 => ?_)
        · refine lv_iinc (v := (ahead + 1)) (lv' := [(2, .int (ahead + 1)), (0, .ref (h 0)), (1, .int i), (3, .int (nI j4))]) hx hb dX2_standingSet_37 hl (k := 2) rfl rfl (by decide) rfl (fun ls hl => ?_)
          refine lv_iinc (v := nI (j4 + 1)) (lv' := [(3, .int (nI (j4 + 1))), (2, .int (ahead + 1)), (0, .ref (h 0)), (1, .int i)]) hx hb dX2_standingSet_40 hl (k := 3) rfl (inc_nI j4) (by decide) rfl (fun ls hl => ?_)
          refine lv_goto (tgt := 4) hx hb dX2_standingSet_43 (by decide) ?_
          exact ih4 (j4 + 1) (by omega) (ahead + 1) (itE_succ he4 (by (unfold f_X2_standingSet_4; (try dsimp only); (try rw [if_neg c_27_6]); (try rw [if_neg c_32_7]); first | done | rfl)))   _ _ hP hS _ (lv_sub hl [2, 3, 1, 0] rfl)
        · refine lv_iload_n hx hb dX2_standingSet_35 rfl (lv_at hl 3 rfl) ?_
          have hs_8 : itE (f_X2_standingSet_4 n may hd fi un on asd i) 0 (j4 + 1) = (.inl (nI j4)) := itE_succ he4 (by (unfold f_X2_standingSet_4; (try dsimp only); (try rw [if_neg c_27_6]); (try rw [if_pos c_32_7]); first | done | rfl))
          have hn_9 := itE_stop hs_8 256 (by omega)
          exact ro_iret hx hb hr hS hlocks (show s_X2_standingSet n may hd fi un on asd i = nI j4 from by (unfold s_X2_standingSet; (try dsimp only); (try rw [hn_9]); (try dsimp only [onE]); first | done | rfl)).symm dX2_standingSet_36
  exact lp4_1 256 0 (by omega) 0 (itE_zero _ _)   _ _ hP hS _ (lv_sub hl [2, 3, 1, 0] rfl)

def s_X2_set (n : Nat) (may : Int32) (hd : Nat → Int32) (fi : Nat → Int32) (un : Nat → Int32) (on : Int32) (asd : Int32) (i : Int32) : Int32 := (if 0 ≤ i then (s_X2_standingSet n may hd fi un on asd i) else (-1))
set_option maxHeartbeats 4000000 in
set_option maxRecDepth 100000 in
theorem c_X2_set (l : Launch) (D : va_G) (h : Nat → Nat) (cA : Nat → ClassId) (n : Nat) (by_ : Nat → Int32) (ln : Int32) (pl : Int32) (tk : Int32) (tp : Int32) (may : Int32) (hd : Nat → Int32) (fi : Nat → Int32) (un : Nat → Int32) (sz2 : Int32) (may2 : Int32) (hd2 : Nat → Int32) (fi2 : Nat → Int32) (un2 : Nat → Int32) (on : Int32) (asd : Int32) (io : Nat → Int32) (ia : Nat → Int32) (kept : Int32) (tr : Int64) (i : Int32) (hn : n ≤ 10) (sz : Nat) : Met l yX2_set wsX2_set ({ frames := 5, cells := 0, slots := 0, locals := 120 }) (va_Pc [.ref (h 0), .int i] (cPre D (tX h cA) (wX h cA by_ ln pl tk tp (nI n) may hd fi un sz2 may2 hd2 fi2 un2 on asd io ia kept tr) sz)) (va_Qi (fun r (_ : Unit) => r = s_X2_set n may hd fi un on asd i) (fun _ _ => True) (fun q => sz ≤ q)) 0 0 (fun q => sz ≤ q) := by
  refine Met.ofW (cc := cX2_set) (maxL := 2) (ret := (some .int)) (by decide) rfl ?_
  intro p e s m args below meth c s₁ B hml hv
  obtain ⟨rfl, hsz, hP, hK, hD, hN⟩ := hv
  have hx := B.exec
  have hb := B.bytes
  have hr := B.returns
  have hts := atoms_spec (ws := wsX2_set) B.pre
  have hown : s.vm.findClass RX2 = some m.cls := findClass_of_methodNamed B.named
  have hlocks := B.notSynchronized
  subst hsz
  obtain ⟨A, hAe⟩ : ∃ A : Nat → Prop, A = (fun q : Nat => s.heap.size ≤ q) := ⟨_, rfl⟩
  have hA : ∀ q : Nat, s.heap.size ≤ q → A q := fun q h => by rw [hAe]; exact h
  have hS : va_S A s.heap s.heap [] := va_S.rf
  subst hAe
  have hl := lv_entry ([.ref (h 0), .int i]) (n := 2) (Nat.le_of_ble_eq_true rfl)
  rw [lg_entry_eq]
  generalize (lg_sl ([.ref (h 0), .int i]) ++ List.replicate (2 - (lg_sl ([.ref (h 0), .int i])).length) Slot.unset).toArray = ls at hl ⊢
  replace hl : lv_has ls 2 [(0, .ref (h 0)), (1, .int i)] := hl
  have hKe := hK.sub (tys' := []) [] rfl
  refine lv_iload_n hx hb dX2_set_0 rfl (lv_at hl 1 rfl) ?_
  refine lv_if_ge (tgt := 8) hx hb dX2_set_1 (by decide) (fun c_1_1 => ?_) (fun c_1_1 => ?_)
  · refine lv_aload_n hx hb dX2_set_8 rfl (lv_at hl 0 rfl) ?_
    refine lv_iload_n hx hb dX2_set_9 rfl (lv_at hl 1 rfl) ?_
    refine ro_i (D := D) (va_runV (As := [.int i]) (rest := []) ⟨hx, hb, hml, hown, hts⟩ (c_X2_standingSet l D h cA n by_ ln pl tk tp may hd fi un sz2 may2 hd2 fi2 un2 on asd io ia kept tr i (by first | assumption | omega) _) (cwV 1 hts gX2_set_X2_standingSet rfl rfl rfl (by decide +kernel) ⟨Nat.le_of_ble_eq_true rfl, Nat.le_of_ble_eq_true rfl⟩) ⟨cPre.blind, va_recv hK hP (ci := 2) (q0 := 0) rfl rfl, cPre.mk hP hK hD hN⟩ rfl rfl hl.1 rfl (lv_room (Nat.le_of_ble_eq_true rfl)) dX2_set_10 ⟨Nat.zero_le _, Nat.zero_le _⟩) hS hA (fun H locs hkp0 hS => ?_)
    replace hP := hkp0 _ hP
    exact ro_iret hx hb hr hS hlocks (show s_X2_set n may hd fi un on asd i = (s_X2_standingSet n may hd fi un on asd i) from by (unfold s_X2_set; (try dsimp only); (try rw [if_pos c_1_1]); first | done | rfl)).symm dX2_set_13
  · refine lv_iconst (v := (-1)) hx hb dX2_set_4 (by decide) ?_
    refine lv_goto (tgt := 13) hx hb dX2_set_5 (by decide) ?_
    exact ro_iret hx hb hr hS hlocks (show s_X2_set n may hd fi un on asd i = (-1) from by (unfold s_X2_set; (try dsimp only); (try rw [if_neg c_1_1]); first | done | rfl)).symm dX2_set_13

def s_X2_stands (n : Nat) (may : Int32) (hd : Nat → Int32) (fi : Nat → Int32) (un : Nat → Int32) (on : Int32) (asd : Int32) (set : Int32) : Int32 := (if (s_X2_isSet set) = 0 then (-1) else (if (s_X0_upholds n may hd fi un set on asd) = 0 then 0 else 1))
set_option maxHeartbeats 4000000 in
set_option maxRecDepth 100000 in
theorem c_X2_stands (l : Launch) (D : va_G) (h : Nat → Nat) (cA : Nat → ClassId) (n : Nat) (by_ : Nat → Int32) (ln : Int32) (pl : Int32) (tk : Int32) (tp : Int32) (may : Int32) (hd : Nat → Int32) (fi : Nat → Int32) (un : Nat → Int32) (sz2 : Int32) (may2 : Int32) (hd2 : Nat → Int32) (fi2 : Nat → Int32) (un2 : Nat → Int32) (on : Int32) (asd : Int32) (io : Nat → Int32) (ia : Nat → Int32) (kept : Int32) (tr : Int64) (set : Int32) (hn : n ≤ 10) (sz : Nat) : Met l yX2_stands wsX2_stands ({ frames := 4, cells := 0, slots := 0, locals := 97 }) (va_Pc [.ref (h 0), .int set] (cPre D (tX h cA) (wX h cA by_ ln pl tk tp (nI n) may hd fi un sz2 may2 hd2 fi2 un2 on asd io ia kept tr) sz)) (va_Qi (fun r (_ : Unit) => r = s_X2_stands n may hd fi un on asd set) (fun _ _ => True) (fun q => sz ≤ q)) 0 0 (fun q => sz ≤ q) := by
  refine Met.ofW (cc := cX2_stands) (maxL := 2) (ret := (some .int)) (by decide) rfl ?_
  intro p e s m args below meth c s₁ B hml hv
  obtain ⟨rfl, hsz, hP, hK, hD, hN⟩ := hv
  have hx := B.exec
  have hb := B.bytes
  have hr := B.returns
  have hts := atoms_spec (ws := wsX2_stands) B.pre
  have hown : s.vm.findClass RX2 = some m.cls := findClass_of_methodNamed B.named
  have hlocks := B.notSynchronized
  have hinX2 : ∀ w ∈ wsX20, w ∈ wsX2_stands := fun w h => List.mem_cons_of_mem _ (List.mem_append_left _ (List.mem_append_right _ h))
  subst hsz
  obtain ⟨A, hAe⟩ : ∃ A : Nat → Prop, A = (fun q : Nat => s.heap.size ≤ q) := ⟨_, rfl⟩
  have hA : ∀ q : Nat, s.heap.size ≤ q → A q := fun q h => by rw [hAe]; exact h
  have hS : va_S A s.heap s.heap [] := va_S.rf
  subst hAe
  have hl := lv_entry ([.ref (h 0), .int set]) (n := 2) (Nat.le_of_ble_eq_true rfl)
  rw [lg_entry_eq]
  generalize (lg_sl ([.ref (h 0), .int set]) ++ List.replicate (2 - (lg_sl ([.ref (h 0), .int set])).length) Slot.unset).toArray = ls at hl ⊢
  replace hl : lv_has ls 2 [(0, .ref (h 0)), (1, .int set)] := hl
  have hKe := hK.sub (tys' := []) [] rfl
  refine lv_iload_n hx hb dX2_stands_0 rfl (lv_at hl 1 rfl) ?_
  refine ro_i (D := D) (va_runS (As := [.int set]) (rest := []) ⟨hx, hb, hml, hown, hts⟩ (c_X2_isSet l D set  _) (va_cwS 1 hts gX2_stands_X2_isSet rfl rfl rfl (by decide +kernel) ⟨Nat.le_of_ble_eq_true rfl, Nat.le_of_ble_eq_true rfl⟩) ⟨cPre.blind, cPre.mk vP0 hKe vD0 hN⟩ rfl rfl hl.1 rfl (lv_room (Nat.le_of_ble_eq_true rfl)) dX2_stands_1 ⟨Nat.zero_le _, Nat.zero_le _⟩) hS hA (fun H locs hkp0 hS => ?_)
  replace hP := hkp0 _ hP
  refine lv_if_ne (tgt := 9) hx hb dX2_stands_4 (by decide) (fun c_4_1 => ?_) (fun c_4_1 => ?_)
  · refine lv_aload_n hx hb dX2_stands_9 rfl (lv_at hl 0 rfl) ?_
    refine va_get (D := D) (ci := 2) (v := .ref (h 3)) (C := RX2) (T := TX2) (N := 9) hx hb hts hinX2 hown hK hP 0 rfl rfl 1 (by decide) (hts (.fieldLink RX2 19 "HoldUnless" "book" "LHoldUnless$RuleBook;") (by decide +kernel)) (fun _ h9 => h9) rfl dX2_stands_10 ?_
    refine lv_iload_n hx hb dX2_stands_13 rfl (lv_at hl 1 rfl) ?_
    refine lv_aload_n hx hb dX2_stands_14 rfl (lv_at hl 0 rfl) ?_
    refine va_get (D := D) (ci := 2) (v := .int on) (C := RX2) (T := TX2) (N := 9) hx hb hts hinX2 hown hK hP 0 rfl rfl 3 (by decide) (hts (.fieldLink RX2 51 "HoldUnless" "on" "I") (by decide +kernel)) (fun _ h9 => h9) rfl dX2_stands_15 ?_
    refine lv_aload_n hx hb dX2_stands_18 rfl (lv_at hl 0 rfl) ?_
    refine va_get (D := D) (ci := 2) (v := .int asd) (C := RX2) (T := TX2) (N := 9) hx hb hts hinX2 hown hK hP 0 rfl rfl 4 (by decide) (hts (.fieldLink RX2 54 "HoldUnless" "assumed" "I") (by decide +kernel)) (fun _ h9 => h9) rfl dX2_stands_19 ?_
    have hPc := hP.sub (ws' := (wB (h 3) (h 4) (h 5) (h 6) (cA 4) (cA 5) (cA 6) (nI n) may hd fi un)) [3, 4, 5, 6] rfl
    have hDc := hD.sub (ws' := (wB (h 3) (h 4) (h 5) (h 6) (cA 4) (cA 5) (cA 6) (nI n) may hd fi un)) [3, 4, 5, 6] (by decide) rfl
    have hKc := hK.sub (tys' := (tB (h 3) (h 4) (h 5) (h 6) (cA 4) (cA 5) (cA 6))) [1, 2, 3] rfl
    refine ro_i (D := D) (va_runVN (As := [.int set, .int on, .int asd]) (rest := []) ⟨hx, hb, hml, hown, hts⟩ (c_X0_upholds l D (h 3) (h 4) (h 5) (h 6) (cA 4) (cA 5) (cA 6) n may hd fi un set on asd (by first | assumption | omega) _) ⟨(va_cnB 3 hts gX2_stands_X0_upholds_n87 rfl rfl rfl (hN.nw 8 rfl) (hts (.initialized RX0) (by decide +kernel)) (by decide +kernel) ⟨Nat.le_of_ble_eq_true rfl, Nat.le_of_ble_eq_true rfl⟩), hts (.instanceMethod yX0_upholds) (by decide +kernel), hts (.selects RX0 yX0_upholds yX0_upholds) (by decide +kernel)⟩ ⟨cPre.blind, va_recv hKc hPc (ci := 0) (q0 := 0) rfl rfl, cPre.mk hPc hKc hDc hN⟩ rfl rfl hl.1 rfl (lv_room (Nat.le_of_ble_eq_true rfl)) dX2_stands_22 ⟨Nat.zero_le _, Nat.zero_le _⟩) hS hA (fun H locs hkp0 hS => ?_)
    replace hP := hkp0 _ hP
    refine lv_if_eq (tgt := 32) hx hb dX2_stands_25 (by decide) (fun c_25_2 => ?_) (fun c_25_2 => ?_)
    · refine lv_iconst (v := 0) hx hb dX2_stands_32 (by decide) ?_
      exact ro_iret hx hb hr hS hlocks (show s_X2_stands n may hd fi un on asd set = 0 from by (unfold s_X2_stands; (try dsimp only); (try rw [if_neg c_4_1]); (try rw [if_pos c_25_2]); first | done | rfl)).symm dX2_stands_33
    · refine lv_iconst (v := 1) hx hb dX2_stands_28 (by decide) ?_
      refine lv_goto (tgt := 33) hx hb dX2_stands_29 (by decide) ?_
      exact ro_iret hx hb hr hS hlocks (show s_X2_stands n may hd fi un on asd set = 1 from by (unfold s_X2_stands; (try dsimp only); (try rw [if_neg c_4_1]); (try rw [if_neg c_25_2]); first | done | rfl)).symm dX2_stands_33
  · refine lv_iconst (v := (-1)) hx hb dX2_stands_7 (by decide) ?_
    exact ro_iret hx hb hr hS hlocks (show s_X2_stands n may hd fi un on asd set = (-1) from by (unfold s_X2_stands; (try dsimp only); (try rw [if_pos c_4_1]); first | done | rfl)).symm dX2_stands_8

def f_X2_holds_18 (n : Nat) (may : Int32) (hd : Nat → Int32) (fi : Nat → Int32) (un : Nat → Int32) (on : Int32) (asd : Int32) (j18 : Nat) (st : Int32 × Int32) : Int32 × Int32 := match st with | (inSome, inAll) => (if (s_X0_upholds n may hd fi un (nI j18) on asd) = 0 then (inSome, inAll) else ((inSome ||| (nI j18)), (inAll &&& (nI j18))))
def s_X2_holds (n : Nat) (may : Int32) (hd : Nat → Int32) (fi : Nat → Int32) (un : Nat → Int32) (on : Int32) (asd : Int32) (what : Int32) : Int32 := (if (s_X2_isBit what) = 0 then (-1) else (match itr (f_X2_holds_18 n may hd fi un on asd) (0, 255) 256 with | (inSome, inAll) => (if what = 0 then inSome else inAll)))
set_option maxHeartbeats 4000000 in
set_option maxRecDepth 100000 in
theorem c_X2_holds (l : Launch) (D : va_G) (h : Nat → Nat) (cA : Nat → ClassId) (n : Nat) (by_ : Nat → Int32) (ln : Int32) (pl : Int32) (tk : Int32) (tp : Int32) (may : Int32) (hd : Nat → Int32) (fi : Nat → Int32) (un : Nat → Int32) (sz2 : Int32) (may2 : Int32) (hd2 : Nat → Int32) (fi2 : Nat → Int32) (un2 : Nat → Int32) (on : Int32) (asd : Int32) (io : Nat → Int32) (ia : Nat → Int32) (kept : Int32) (tr : Int64) (what : Int32) (hn : n ≤ 10) (sz : Nat) : Met l yX2_holds wsX2_holds ({ frames := 4, cells := 0, slots := 0, locals := 97 }) (va_Pc [.ref (h 0), .int what] (cPre D (tX h cA) (wX h cA by_ ln pl tk tp (nI n) may hd fi un sz2 may2 hd2 fi2 un2 on asd io ia kept tr) sz)) (va_Qi (fun r (_ : Unit) => r = s_X2_holds n may hd fi un on asd what) (fun _ _ => True) (fun q => sz ≤ q)) 0 0 (fun q => sz ≤ q) := by
  refine Met.ofW (cc := cX2_holds) (maxL := 5) (ret := (some .int)) (by decide) rfl ?_
  intro p e s m args below meth c s₁ B hml hv
  obtain ⟨rfl, hsz, hP, hK, hD, hN⟩ := hv
  have hx := B.exec
  have hb := B.bytes
  have hr := B.returns
  have hts := atoms_spec (ws := wsX2_holds) B.pre
  have hown : s.vm.findClass RX2 = some m.cls := findClass_of_methodNamed B.named
  have hlocks := B.notSynchronized
  have hinX2 : ∀ w ∈ wsX20, w ∈ wsX2_holds := fun w h => List.mem_cons_of_mem _ (List.mem_append_left _ (List.mem_append_right _ h))
  subst hsz
  obtain ⟨A, hAe⟩ : ∃ A : Nat → Prop, A = (fun q : Nat => s.heap.size ≤ q) := ⟨_, rfl⟩
  have hA : ∀ q : Nat, s.heap.size ≤ q → A q := fun q h => by rw [hAe]; exact h
  have hS : va_S A s.heap s.heap [] := va_S.rf
  subst hAe
  have hl := lv_entry ([.ref (h 0), .int what]) (n := 5) (Nat.le_of_ble_eq_true rfl)
  rw [lg_entry_eq]
  generalize (lg_sl ([.ref (h 0), .int what]) ++ List.replicate (5 - (lg_sl ([.ref (h 0), .int what])).length) Slot.unset).toArray = ls at hl ⊢
  replace hl : lv_has ls 5 [(0, .ref (h 0)), (1, .int what)] := hl
  have hKe := hK.sub (tys' := []) [] rfl
  refine lv_iload_n hx hb dX2_holds_0 rfl (lv_at hl 1 rfl) ?_
  refine ro_i (D := D) (va_runS (As := [.int what]) (rest := []) ⟨hx, hb, hml, hown, hts⟩ (c_X2_isBit l D what  _) (va_cwS 1 hts gX2_holds_X2_isBit rfl rfl rfl (by decide +kernel) ⟨Nat.le_of_ble_eq_true rfl, Nat.le_of_ble_eq_true rfl⟩) ⟨cPre.blind, cPre.mk vP0 hKe vD0 hN⟩ rfl rfl hl.1 rfl (lv_room (Nat.le_of_ble_eq_true rfl)) dX2_holds_1 ⟨Nat.zero_le _, Nat.zero_le _⟩) hS hA (fun H locs hkp0 hS => ?_)
  replace hP := hkp0 _ hP
  refine lv_if_ne (tgt := 9) hx hb dX2_holds_4 (by decide) (fun c_4_1 => ?_) (fun c_4_1 => ?_)
  · refine lv_iconst (v := 0) hx hb dX2_holds_9 (by decide) ?_
    refine lv_istore_n (lv' := [(2, .int 0), (0, .ref (h 0)), (1, .int what)]) hx hb dX2_holds_10 rfl hl (by decide) rfl (fun ls hl => ?_)
    refine lv_sipush (v := 255) hx hb dX2_holds_11 (by decide) ?_
    refine lv_istore_n (lv' := [(3, .int 255), (2, .int 0), (0, .ref (h 0)), (1, .int what)]) hx hb dX2_holds_14 rfl hl (by decide) rfl (fun ls hl => ?_)
    refine lv_iconst (v := 0) hx hb dX2_holds_15 (by decide) ?_
    refine lv_istore (lv' := [(4, .int 0), (3, .int 255), (2, .int 0), (0, .ref (h 0)), (1, .int what)]) hx hb dX2_holds_16 hl (by decide) rfl (fun ls hl => ?_)
    have lp18_2 : ∀ (z_2 j18 : Nat), j18 + z_2 = 256 → ∀ (inSome : Int32) (inAll : Int32), (inSome, inAll) = itr (f_X2_holds_18 n may hd fi un on asd) (0, 255) j18 → ∀  (H : Heap) (locs : List Loc), va_P D vwCl (wX h cA by_ ln pl tk tp (nI n) may hd fi un sz2 may2 hd2 fi2 un2 on asd io ia kept tr) H → va_S (fun q : Nat => s.heap.size ≤ q) s.heap H locs → ∀ ls : Array Slot, lv_has ls 5 [(0, .ref (h 0)), (1, .int what), (2, .int inSome), (3, .int inAll), (4, .int (nI j18))] → W p l e (headSpec wsX2_holds ({ frames := 4, cells := 0, slots := 0, locals := 97 })).room s m ([.ref (h 0), .int what] : List Value).toArray below meth c H locs 0 0 (MQ below (va_Qi (fun r (_ : Unit) => r = s_X2_holds n may hd fi un on asd what) (fun _ _ => True) (fun q => s.heap.size ≤ q)) ([.ref (h 0), .int what] : List Value).toArray s 0 0 (fun q => s.heap.size ≤ q)) (F0 m 18 ls []) := by
      intro z_2
      induction z_2 with
      | zero =>
        intro j18 hj18 inSome inAll he18   H locs hP hS ls hl
        obtain rfl : 256 = j18 := by omega
        refine lv_iload hx hb dX2_holds_18 (lv_at hl 4 rfl) ?_
        refine lv_sipush (v := 255) hx hb dX2_holds_20 (by decide) ?_
        refine lv_icmp_gt (tgt := 62) hx hb dX2_holds_23 (by decide) (fun _ => ?_) (fun hh_4 => absurd (nI_lt (a := 255) (b := 256) (by omega) (by omega)) hh_4)
        refine lv_iload_n hx hb dX2_holds_62 rfl (lv_at hl 1 rfl) ?_
        refine lv_if_ne (tgt := 70) hx hb dX2_holds_63 (by decide) (fun c_63_5 => ?_) (fun c_63_5 => ?_)
        · refine lv_iload_n hx hb dX2_holds_70 rfl (lv_at hl 3 rfl) ?_
          exact ro_iret hx hb hr hS hlocks (show s_X2_holds n may hd fi un on asd what = inAll from by (unfold s_X2_holds; (try dsimp only); (try rw [if_neg c_4_1]); (try rw [← he18]); (try dsimp only); (try rw [if_neg c_63_5]); first | done | rfl)).symm dX2_holds_71
        · refine lv_iload_n hx hb dX2_holds_66 rfl (lv_at hl 2 rfl) ?_
          refine lv_goto (tgt := 71) hx hb dX2_holds_67 (by decide) ?_
          exact ro_iret hx hb hr hS hlocks (show s_X2_holds n may hd fi un on asd what = inSome from by (unfold s_X2_holds; (try dsimp only); (try rw [if_neg c_4_1]); (try rw [← he18]); (try dsimp only); (try rw [if_pos c_63_5]); first | done | rfl)).symm dX2_holds_71
      | succ z_2 ih18 =>
        intro j18 hj18 inSome inAll he18   H locs hP hS ls hl
        refine lv_iload hx hb dX2_holds_18 (lv_at hl 4 rfl) ?_
        refine lv_sipush (v := 255) hx hb dX2_holds_20 (by decide) ?_
        refine lv_icmp_gt (tgt := 62) hx hb dX2_holds_23 (by decide) (fun hh_7 => absurd hh_7 (nI_nlt (a := 255) (b := j18) (by omega) (by omega))) (fun _ => ?_)
        refine lv_aload_n hx hb dX2_holds_26 rfl (lv_at hl 0 rfl) ?_
        refine va_get (D := D) (ci := 2) (v := .ref (h 3)) (C := RX2) (T := TX2) (N := 9) hx hb hts hinX2 hown hK hP 0 rfl rfl 1 (by decide) (hts (.fieldLink RX2 19 "HoldUnless" "book" "LHoldUnless$RuleBook;") (by decide +kernel)) (fun _ h9 => h9) rfl dX2_holds_27 ?_
        refine lv_iload hx hb dX2_holds_30 (lv_at hl 4 rfl) ?_
        refine lv_aload_n hx hb dX2_holds_32 rfl (lv_at hl 0 rfl) ?_
        refine va_get (D := D) (ci := 2) (v := .int on) (C := RX2) (T := TX2) (N := 9) hx hb hts hinX2 hown hK hP 0 rfl rfl 3 (by decide) (hts (.fieldLink RX2 51 "HoldUnless" "on" "I") (by decide +kernel)) (fun _ h9 => h9) rfl dX2_holds_33 ?_
        refine lv_aload_n hx hb dX2_holds_36 rfl (lv_at hl 0 rfl) ?_
        refine va_get (D := D) (ci := 2) (v := .int asd) (C := RX2) (T := TX2) (N := 9) hx hb hts hinX2 hown hK hP 0 rfl rfl 4 (by decide) (hts (.fieldLink RX2 54 "HoldUnless" "assumed" "I") (by decide +kernel)) (fun _ h9 => h9) rfl dX2_holds_37 ?_
        have hPc := hP.sub (ws' := (wB (h 3) (h 4) (h 5) (h 6) (cA 4) (cA 5) (cA 6) (nI n) may hd fi un)) [3, 4, 5, 6] rfl
        have hDc := hD.sub (ws' := (wB (h 3) (h 4) (h 5) (h 6) (cA 4) (cA 5) (cA 6) (nI n) may hd fi un)) [3, 4, 5, 6] (by decide) rfl
        have hKc := hK.sub (tys' := (tB (h 3) (h 4) (h 5) (h 6) (cA 4) (cA 5) (cA 6))) [1, 2, 3] rfl
        refine ro_i (D := D) (va_runVN (As := [.int (nI j18), .int on, .int asd]) (rest := []) ⟨hx, hb, hml, hown, hts⟩ (c_X0_upholds l D (h 3) (h 4) (h 5) (h 6) (cA 4) (cA 5) (cA 6) n may hd fi un (nI j18) on asd (by first | assumption | omega) _) ⟨(va_cnB 3 hts gX2_holds_X0_upholds_n87 rfl rfl rfl (hN.nw 8 rfl) (hts (.initialized RX0) (by decide +kernel)) (by decide +kernel) ⟨Nat.le_of_ble_eq_true rfl, Nat.le_of_ble_eq_true rfl⟩), hts (.instanceMethod yX0_upholds) (by decide +kernel), hts (.selects RX0 yX0_upholds yX0_upholds) (by decide +kernel)⟩ ⟨cPre.blind, va_recv hKc hPc (ci := 0) (q0 := 0) rfl rfl, cPre.mk hPc hKc hDc hN⟩ rfl rfl hl.1 rfl (lv_room (Nat.le_of_ble_eq_true rfl)) dX2_holds_40 ⟨Nat.zero_le _, Nat.zero_le _⟩) hS hA (fun H locs hkp0 hS => ?_)
        replace hP := hkp0 _ hP
        refine lv_if_eq (tgt := 56) hx hb dX2_holds_43 (by decide) (fun c_43_8 => ?_) (fun c_43_8 => ?_)
        · refine lv_iinc (v := nI (j18 + 1)) (lv' := [(4, .int (nI (j18 + 1))), (0, .ref (h 0)), (1, .int what), (2, .int inSome), (3, .int inAll)]) hx hb dX2_holds_56 hl (k := 4) rfl (inc_nI j18) (by decide) rfl (fun ls hl => ?_)
          refine lv_goto (tgt := 18) hx hb dX2_holds_59 (by decide) ?_
          exact ih18 (j18 + 1) (by omega) inSome inAll (itr_step he18 (by (unfold f_X2_holds_18; (try dsimp only); (try rw [if_pos c_43_8]); first | done | rfl)))   _ _ hP hS _ (lv_sub hl [1, 2, 3, 4, 0] rfl)
        · refine lv_iload_n hx hb dX2_holds_46 rfl (lv_at hl 2 rfl) ?_
          refine lv_iload hx hb dX2_holds_47 (lv_at hl 4 rfl) ?_
          refine lv_ior hx hb dX2_holds_49 ?_
          refine lv_istore_n (lv' := [(2, .int (inSome ||| (nI j18))), (0, .ref (h 0)), (1, .int what), (3, .int inAll), (4, .int (nI j18))]) hx hb dX2_holds_50 rfl hl (by decide) rfl (fun ls hl => ?_)
          refine lv_iload_n hx hb dX2_holds_51 rfl (lv_at hl 3 rfl) ?_
          refine lv_iload hx hb dX2_holds_52 (lv_at hl 4 rfl) ?_
          refine lv_iand hx hb dX2_holds_54 ?_
          refine lv_istore_n (lv' := [(3, .int (inAll &&& (nI j18))), (2, .int (inSome ||| (nI j18))), (0, .ref (h 0)), (1, .int what), (4, .int (nI j18))]) hx hb dX2_holds_55 rfl hl (by decide) rfl (fun ls hl => ?_)
          refine lv_iinc (v := nI (j18 + 1)) (lv' := [(4, .int (nI (j18 + 1))), (3, .int (inAll &&& (nI j18))), (2, .int (inSome ||| (nI j18))), (0, .ref (h 0)), (1, .int what)]) hx hb dX2_holds_56 hl (k := 4) rfl (inc_nI j18) (by decide) rfl (fun ls hl => ?_)
          refine lv_goto (tgt := 18) hx hb dX2_holds_59 (by decide) ?_
          exact ih18 (j18 + 1) (by omega) (inSome ||| (nI j18)) (inAll &&& (nI j18)) (itr_step he18 (by (unfold f_X2_holds_18; (try dsimp only); (try rw [if_neg c_43_8]); first | done | rfl)))   _ _ hP hS _ (lv_sub hl [3, 4, 2, 1, 0] rfl)
    exact lp18_2 256 0 (by omega) 0 255 (itr_zero _ _).symm   _ _ hP hS _ (lv_sub hl [3, 4, 2, 1, 0] rfl)
  · refine lv_iconst (v := (-1)) hx hb dX2_holds_7 (by decide) ?_
    exact ro_iret hx hb hr hS hlocks (show s_X2_holds n may hd fi un on asd what = (-1) from by (unfold s_X2_holds; (try dsimp only); (try rw [if_pos c_4_1]); first | done | rfl)).symm dX2_holds_8

def f_X2_known_18 (n : Nat) (may : Int32) (hd : Nat → Int32) (fi : Nat → Int32) (un : Nat → Int32) (on : Int32) (asd : Int32) (a : Int32) (j18 : Nat) (st : Int32 × Int32) : Int32 ⊕ (Int32 × Int32) := match st with | (less, more) => (if (s_X0_comesOf n hd fi un asd on more) = less then (if (s_X0_comesOf n hd fi un (asd ||| may) on (s_X0_comesOf n hd fi un asd on more)) = more then (if (s_X2_bitOf (s_X0_comesOf n hd fi un asd on more) a) = 1 then (.inl 1) else (if (s_X2_bitOf (s_X0_comesOf n hd fi un (asd ||| may) on (s_X0_comesOf n hd fi un asd on more)) a) = 0 then (.inl 0) else (.inl (-9)))) else (.inr ((s_X0_comesOf n hd fi un asd on more), (s_X0_comesOf n hd fi un (asd ||| may) on (s_X0_comesOf n hd fi un asd on more))))) else (.inr ((s_X0_comesOf n hd fi un asd on more), (s_X0_comesOf n hd fi un (asd ||| may) on (s_X0_comesOf n hd fi un asd on more)))))
def s_X2_known (n : Nat) (may : Int32) (hd : Nat → Int32) (fi : Nat → Int32) (un : Nat → Int32) (on : Int32) (asd : Int32) (a : Int32) : Int32 := (if (s_X2_isSentence a) = 0 then (-1) else (onE (itE (f_X2_known_18 n may hd fi un on asd a) (0, 255) 17) (fun st => match st with | (less, more) => (if (s_X2_bitOf less a) = 1 then 1 else (if (s_X2_bitOf more a) = 0 then 0 else (-9))))))
set_option maxHeartbeats 4000000 in
set_option maxRecDepth 100000 in
theorem c_X2_known (l : Launch) (D : va_G) (h : Nat → Nat) (cA : Nat → ClassId) (n : Nat) (by_ : Nat → Int32) (ln : Int32) (pl : Int32) (tk : Int32) (tp : Int32) (may : Int32) (hd : Nat → Int32) (fi : Nat → Int32) (un : Nat → Int32) (sz2 : Int32) (may2 : Int32) (hd2 : Nat → Int32) (fi2 : Nat → Int32) (un2 : Nat → Int32) (on : Int32) (asd : Int32) (io : Nat → Int32) (ia : Nat → Int32) (kept : Int32) (tr : Int64) (a : Int32) (hn : n ≤ 10) (sz : Nat) : Met l yX2_known wsX2_known ({ frames := 3, cells := 0, slots := 0, locals := 74 }) (va_Pc [.ref (h 0), .int a] (cPre D (tX h cA) (wX h cA by_ ln pl tk tp (nI n) may hd fi un sz2 may2 hd2 fi2 un2 on asd io ia kept tr) sz)) (va_Qi (fun r (_ : Unit) => r = s_X2_known n may hd fi un on asd a) (fun _ _ => True) (fun q => sz ≤ q)) 0 0 (fun q => sz ≤ q) := by
  refine Met.ofW (cc := cX2_known) (maxL := 7) (ret := (some .int)) (by decide) rfl ?_
  intro p e s m args below meth c s₁ B hml hv
  obtain ⟨rfl, hsz, hP, hK, hD, hN⟩ := hv
  have hx := B.exec
  have hb := B.bytes
  have hr := B.returns
  have hts := atoms_spec (ws := wsX2_known) B.pre
  have hown : s.vm.findClass RX2 = some m.cls := findClass_of_methodNamed B.named
  have hlocks := B.notSynchronized
  have hinX0 : ∀ w ∈ wsX00, w ∈ wsX2_known := fun w h => List.mem_cons_of_mem _ (List.mem_append_right _ h)
  have hinX2 : ∀ w ∈ wsX20, w ∈ wsX2_known := fun w h => List.mem_cons_of_mem _ (List.mem_append_left _ (List.mem_append_right _ h))
  subst hsz
  obtain ⟨A, hAe⟩ : ∃ A : Nat → Prop, A = (fun q : Nat => s.heap.size ≤ q) := ⟨_, rfl⟩
  have hA : ∀ q : Nat, s.heap.size ≤ q → A q := fun q h => by rw [hAe]; exact h
  have hS : va_S A s.heap s.heap [] := va_S.rf
  subst hAe
  have hl := lv_entry ([.ref (h 0), .int a]) (n := 7) (Nat.le_of_ble_eq_true rfl)
  rw [lg_entry_eq]
  generalize (lg_sl ([.ref (h 0), .int a]) ++ List.replicate (7 - (lg_sl ([.ref (h 0), .int a])).length) Slot.unset).toArray = ls at hl ⊢
  replace hl : lv_has ls 7 [(0, .ref (h 0)), (1, .int a)] := hl
  have hKe := hK.sub (tys' := []) [] rfl
  refine lv_iload_n hx hb dX2_known_0 rfl (lv_at hl 1 rfl) ?_
  refine ro_i (D := D) (va_runS (As := [.int a]) (rest := []) ⟨hx, hb, hml, hown, hts⟩ (c_X2_isSentence l D a  _) (va_cwS 1 hts gX2_known_X2_isSentence rfl rfl rfl (by decide +kernel) ⟨Nat.le_of_ble_eq_true rfl, Nat.le_of_ble_eq_true rfl⟩) ⟨cPre.blind, cPre.mk vP0 hKe vD0 hN⟩ rfl rfl hl.1 rfl (lv_room (Nat.le_of_ble_eq_true rfl)) dX2_known_1 ⟨Nat.zero_le _, Nat.zero_le _⟩) hS hA (fun H locs hkp0 hS => ?_)
  replace hP := hkp0 _ hP
  refine lv_if_ne (tgt := 9) hx hb dX2_known_4 (by decide) (fun c_4_1 => ?_) (fun c_4_1 => ?_)
  · refine lv_iconst (v := 0) hx hb dX2_known_9 (by decide) ?_
    refine lv_istore_n (lv' := [(2, .int 0), (0, .ref (h 0)), (1, .int a)]) hx hb dX2_known_10 rfl hl (by decide) rfl (fun ls hl => ?_)
    refine lv_sipush (v := 255) hx hb dX2_known_11 (by decide) ?_
    refine lv_istore_n (lv' := [(3, .int 255), (2, .int 0), (0, .ref (h 0)), (1, .int a)]) hx hb dX2_known_14 rfl hl (by decide) rfl (fun ls hl => ?_)
    refine lv_iconst (v := 0) hx hb dX2_known_15 (by decide) ?_
    refine lv_istore (lv' := [(4, .int 0), (3, .int 255), (2, .int 0), (0, .ref (h 0)), (1, .int a)]) hx hb dX2_known_16 hl (by decide) rfl (fun ls hl => ?_)
    have lp18_2 : ∀ (z_2 j18 : Nat), j18 + z_2 = 17 → ∀ (less : Int32) (more : Int32), itE (f_X2_known_18 n may hd fi un on asd a) (0, 255) j18 = .inr (less, more) → ∀  (H : Heap) (locs : List Loc), va_P D vwCl (wX h cA by_ ln pl tk tp (nI n) may hd fi un sz2 may2 hd2 fi2 un2 on asd io ia kept tr) H → va_S (fun q : Nat => s.heap.size ≤ q) s.heap H locs → ∀ ls : Array Slot, lv_has ls 7 [(0, .ref (h 0)), (1, .int a), (2, .int less), (3, .int more), (4, .int (nI j18))] → W p l e (headSpec wsX2_known ({ frames := 3, cells := 0, slots := 0, locals := 74 })).room s m ([.ref (h 0), .int a] : List Value).toArray below meth c H locs 0 0 (MQ below (va_Qi (fun r (_ : Unit) => r = s_X2_known n may hd fi un on asd a) (fun _ _ => True) (fun q => s.heap.size ≤ q)) ([.ref (h 0), .int a] : List Value).toArray s 0 0 (fun q => s.heap.size ≤ q)) (F0 m 18 ls []) := by
      intro z_2
      induction z_2 with
      | zero =>
        intro j18 hj18 less more he18   H locs hP hS ls hl
        obtain rfl : 17 = j18 := by omega
        refine lv_iload hx hb dX2_known_18 (lv_at hl 4 rfl) ?_
        refine lv_bipush (v := 16) hx hb dX2_known_20 (by decide) ?_
        refine lv_icmp_gt (tgt := 94) hx hb dX2_known_22 (by decide) (fun _ => ?_) (fun hh_4 => absurd (nI_lt (a := 16) (b := 17) (by omega) (by omega)) hh_4)
        refine lv_iload_n hx hb dX2_known_94 rfl (lv_at hl 2 rfl) ?_
        refine lv_iload_n hx hb dX2_known_95 rfl (lv_at hl 1 rfl) ?_
        refine ro_i (D := D) (va_runS (As := [.int less, .int a]) (rest := []) ⟨hx, hb, hml, hown, hts⟩ (c_X2_bitOf l D less a  _) (va_cwS 2 hts gX2_known_X2_bitOf rfl rfl rfl (by decide +kernel) ⟨Nat.le_of_ble_eq_true rfl, Nat.le_of_ble_eq_true rfl⟩) ⟨cPre.blind, cPre.mk vP0 hKe vD0 hN⟩ rfl rfl hl.1 rfl (lv_room (Nat.le_of_ble_eq_true rfl)) dX2_known_96 ⟨Nat.zero_le _, Nat.zero_le _⟩) hS hA (fun H locs hkp0 hS => ?_)
        replace hP := hkp0 _ hP
        refine lv_iconst (v := 1) hx hb dX2_known_99 (by decide) ?_
        refine lv_icmp_ne (tgt := 105) hx hb dX2_known_100 (by decide) (fun c_100_5 => ?_) (fun c_100_5 => ?_)
        · refine lv_iload_n hx hb dX2_known_105 rfl (lv_at hl 3 rfl) ?_
          refine lv_iload_n hx hb dX2_known_106 rfl (lv_at hl 1 rfl) ?_
          refine ro_i (D := D) (va_runS (As := [.int more, .int a]) (rest := []) ⟨hx, hb, hml, hown, hts⟩ (c_X2_bitOf l D more a  _) (va_cwS 2 hts gX2_known_X2_bitOf rfl rfl rfl (by decide +kernel) ⟨Nat.le_of_ble_eq_true rfl, Nat.le_of_ble_eq_true rfl⟩) ⟨cPre.blind, cPre.mk vP0 hKe vD0 hN⟩ rfl rfl hl.1 rfl (lv_room (Nat.le_of_ble_eq_true rfl)) dX2_known_107 ⟨Nat.zero_le _, Nat.zero_le _⟩) hS hA (fun H locs hkp0 hS => ?_)
          replace hP := hkp0 _ hP
          refine lv_if_ne (tgt := 117) hx hb dX2_known_110 (by decide) (fun c_110_6 => ?_) (fun c_110_6 => ?_)
          · refine lv_bipush (v := (-9)) hx hb dX2_known_117 (by decide) ?_
            exact ro_iret hx hb hr hS hlocks (show s_X2_known n may hd fi un on asd a = (-9) from by (unfold s_X2_known; (try dsimp only); (try rw [if_neg c_4_1]); (try rw [he18]); (try dsimp only [onE]); (try rw [if_neg c_100_5]); (try rw [if_neg c_110_6]); first | done | rfl)).symm dX2_known_119
          · refine lv_iconst (v := 0) hx hb dX2_known_113 (by decide) ?_
            refine lv_goto (tgt := 119) hx hb dX2_known_114 (by decide) ?_
            exact ro_iret hx hb hr hS hlocks (show s_X2_known n may hd fi un on asd a = 0 from by (unfold s_X2_known; (try dsimp only); (try rw [if_neg c_4_1]); (try rw [he18]); (try dsimp only [onE]); (try rw [if_neg c_100_5]); (try rw [if_pos c_110_6]); first | done | rfl)).symm dX2_known_119
        · refine lv_iconst (v := 1) hx hb dX2_known_103 (by decide) ?_
          exact ro_iret hx hb hr hS hlocks (show s_X2_known n may hd fi un on asd a = 1 from by (unfold s_X2_known; (try dsimp only); (try rw [if_neg c_4_1]); (try rw [he18]); (try dsimp only [onE]); (try rw [if_pos c_100_5]); first | done | rfl)).symm dX2_known_104
      | succ z_2 ih18 =>
        intro j18 hj18 less more he18   H locs hP hS ls hl
        refine lv_iload hx hb dX2_known_18 (lv_at hl 4 rfl) ?_
        refine lv_bipush (v := 16) hx hb dX2_known_20 (by decide) ?_
        refine lv_icmp_gt (tgt := 94) hx hb dX2_known_22 (by decide) (fun hh_8 => absurd hh_8 (nI_nlt (a := 16) (b := j18) (by omega) (by omega))) (fun _ => ?_)
        refine lv_iload_n hx hb dX2_known_25 rfl (lv_at hl 2 rfl) ?_
        refine lv_istore (lv' := [(5, .int less), (0, .ref (h 0)), (1, .int a), (2, .int less), (3, .int more), (4, .int (nI j18))]) hx hb dX2_known_26 hl (by decide) rfl (fun ls hl => ?_)
        refine lv_iload_n hx hb dX2_known_28 rfl (lv_at hl 4 rfl) ?_
        refine lv_istore (lv' := [(6, .int more), (5, .int less), (0, .ref (h 0)), (1, .int a), (2, .int less), (3, .int more), (4, .int (nI j18))]) hx hb dX2_known_29 hl (by decide) rfl (fun ls hl => ?_)
        refine lv_aload_n hx hb dX2_known_31 rfl (lv_at hl 2 rfl) ?_
        refine va_get (D := D) (ci := 2) (v := .ref (h 3)) (C := RX2) (T := TX2) (N := 9) hx hb hts hinX2 hown hK hP 0 rfl rfl 1 (by decide) (hts (.fieldLink RX2 19 "HoldUnless" "book" "LHoldUnless$RuleBook;") (by decide +kernel)) (fun _ h9 => h9) rfl dX2_known_32 ?_
        refine lv_aload_n hx hb dX2_known_35 rfl (lv_at hl 2 rfl) ?_
        refine va_get (D := D) (ci := 2) (v := .int asd) (C := RX2) (T := TX2) (N := 9) hx hb hts hinX2 hown hK hP 0 rfl rfl 4 (by decide) (hts (.fieldLink RX2 54 "HoldUnless" "assumed" "I") (by decide +kernel)) (fun _ h9 => h9) rfl dX2_known_36 ?_
        refine lv_aload_n hx hb dX2_known_39 rfl (lv_at hl 2 rfl) ?_
        refine va_get (D := D) (ci := 2) (v := .int on) (C := RX2) (T := TX2) (N := 9) hx hb hts hinX2 hown hK hP 0 rfl rfl 3 (by decide) (hts (.fieldLink RX2 51 "HoldUnless" "on" "I") (by decide +kernel)) (fun _ h9 => h9) rfl dX2_known_40 ?_
        refine lv_iload_n hx hb dX2_known_43 rfl (lv_at hl 5 rfl) ?_
        have hPc := hP.sub (ws' := (wB (h 3) (h 4) (h 5) (h 6) (cA 4) (cA 5) (cA 6) (nI n) may hd fi un)) [3, 4, 5, 6] rfl
        have hDc := hD.sub (ws' := (wB (h 3) (h 4) (h 5) (h 6) (cA 4) (cA 5) (cA 6) (nI n) may hd fi un)) [3, 4, 5, 6] (by decide) rfl
        have hKc := hK.sub (tys' := (tB (h 3) (h 4) (h 5) (h 6) (cA 4) (cA 5) (cA 6))) [1, 2, 3] rfl
        refine ro_i (D := D) (va_runVN (As := [.int asd, .int on, .int more]) (rest := []) ⟨hx, hb, hml, hown, hts⟩ (c_X0_comesOf l D (h 3) (h 4) (h 5) (h 6) (cA 4) (cA 5) (cA 6) n may hd fi un asd on more (by first | assumption | omega) _) ⟨(va_cnB 3 hts gX2_known_X0_comesOf_n98 rfl rfl rfl (hN.nw 10 rfl) (hts (.initialized RX0) (by decide +kernel)) (by decide +kernel) ⟨Nat.le_of_ble_eq_true rfl, Nat.le_of_ble_eq_true rfl⟩), hts (.instanceMethod yX0_comesOf) (by decide +kernel), hts (.selects RX0 yX0_comesOf yX0_comesOf) (by decide +kernel)⟩ ⟨cPre.blind, va_recv hKc hPc (ci := 0) (q0 := 0) rfl rfl, cPre.mk hPc hKc hDc hN⟩ rfl rfl hl.1 rfl (lv_room (Nat.le_of_ble_eq_true rfl)) dX2_known_44 ⟨Nat.zero_le _, Nat.zero_le _⟩) hS hA (fun H locs hkp0 hS => ?_)
        replace hP := hkp0 _ hP
        refine lv_istore_n (lv' := [(2, .int (s_X0_comesOf n hd fi un asd on more)), (6, .int more), (5, .int less), (0, .ref (h 0)), (1, .int a), (3, .int more), (4, .int (nI j18))]) hx hb dX2_known_47 rfl hl (by decide) rfl (fun ls hl => ?_)
        refine lv_aload_n hx hb dX2_known_48 rfl (lv_at hl 3 rfl) ?_
        refine va_get (D := D) (ci := 2) (v := .ref (h 3)) (C := RX2) (T := TX2) (N := 9) hx hb hts hinX2 hown hK hP 0 rfl rfl 1 (by decide) (hts (.fieldLink RX2 19 "HoldUnless" "book" "LHoldUnless$RuleBook;") (by decide +kernel)) (fun _ h9 => h9) rfl dX2_known_49 ?_
        refine lv_aload_n hx hb dX2_known_52 rfl (lv_at hl 3 rfl) ?_
        refine va_get (D := D) (ci := 2) (v := .int asd) (C := RX2) (T := TX2) (N := 9) hx hb hts hinX2 hown hK hP 0 rfl rfl 4 (by decide) (hts (.fieldLink RX2 54 "HoldUnless" "assumed" "I") (by decide +kernel)) (fun _ h9 => h9) rfl dX2_known_53 ?_
        refine lv_aload_n hx hb dX2_known_56 rfl (lv_at hl 3 rfl) ?_
        refine va_get (D := D) (ci := 2) (v := .ref (h 3)) (C := RX2) (T := TX2) (N := 9) hx hb hts hinX2 hown hK hP 0 rfl rfl 1 (by decide) (hts (.fieldLink RX2 19 "HoldUnless" "book" "LHoldUnless$RuleBook;") (by decide +kernel)) (fun _ h9 => h9) rfl dX2_known_57 ?_
        refine va_getN (D := D) (ci := 0) (v := .int may) (C := RX0) (T := TX0) (N := 5) hx hb hts hinX0 hown hK hP 3 rfl rfl 1 (by decide) (hN.use 20 rfl) (fun _ h9 => h9) rfl dX2_known_60 ?_
        refine lv_ior hx hb dX2_known_63 ?_
        refine lv_aload_n hx hb dX2_known_64 rfl (lv_at hl 3 rfl) ?_
        refine va_get (D := D) (ci := 2) (v := .int on) (C := RX2) (T := TX2) (N := 9) hx hb hts hinX2 hown hK hP 0 rfl rfl 3 (by decide) (hts (.fieldLink RX2 51 "HoldUnless" "on" "I") (by decide +kernel)) (fun _ h9 => h9) rfl dX2_known_65 ?_
        refine lv_iload_n hx hb dX2_known_68 rfl (lv_at hl 0 rfl) ?_
        have hPc := hP.sub (ws' := (wB (h 3) (h 4) (h 5) (h 6) (cA 4) (cA 5) (cA 6) (nI n) may hd fi un)) [3, 4, 5, 6] rfl
        have hDc := hD.sub (ws' := (wB (h 3) (h 4) (h 5) (h 6) (cA 4) (cA 5) (cA 6) (nI n) may hd fi un)) [3, 4, 5, 6] (by decide) rfl
        have hKc := hK.sub (tys' := (tB (h 3) (h 4) (h 5) (h 6) (cA 4) (cA 5) (cA 6))) [1, 2, 3] rfl
        refine ro_i (D := D) (va_runVN (As := [.int (asd ||| may), .int on, .int (s_X0_comesOf n hd fi un asd on more)]) (rest := []) ⟨hx, hb, hml, hown, hts⟩ (c_X0_comesOf l D (h 3) (h 4) (h 5) (h 6) (cA 4) (cA 5) (cA 6) n may hd fi un (asd ||| may) on (s_X0_comesOf n hd fi un asd on more) (by first | assumption | omega) _) ⟨(va_cnB 3 hts gX2_known_X0_comesOf_n98 rfl rfl rfl (hN.nw 10 rfl) (hts (.initialized RX0) (by decide +kernel)) (by decide +kernel) ⟨Nat.le_of_ble_eq_true rfl, Nat.le_of_ble_eq_true rfl⟩), hts (.instanceMethod yX0_comesOf) (by decide +kernel), hts (.selects RX0 yX0_comesOf yX0_comesOf) (by decide +kernel)⟩ ⟨cPre.blind, va_recv hKc hPc (ci := 0) (q0 := 0) rfl rfl, cPre.mk hPc hKc hDc hN⟩ rfl rfl hl.1 rfl (lv_room (Nat.le_of_ble_eq_true rfl)) dX2_known_69 ⟨Nat.zero_le _, Nat.zero_le _⟩) hS hA (fun H locs hkp0 hS => ?_)
        replace hP := hkp0 _ hP
        refine lv_istore_n (lv' := [(3, .int (s_X0_comesOf n hd fi un (asd ||| may) on (s_X0_comesOf n hd fi un asd on more))), (2, .int (s_X0_comesOf n hd fi un asd on more)), (6, .int more), (5, .int less), (0, .ref (h 0)), (1, .int a), (4, .int (nI j18))]) hx hb dX2_known_72 rfl hl (by decide) rfl (fun ls hl => ?_)
        refine lv_iload_n hx hb dX2_known_73 rfl (lv_at hl 1 rfl) ?_
        refine lv_iload hx hb dX2_known_74 (lv_at hl 3 rfl) ?_
        refine lv_icmp_ne (tgt := 88) hx hb dX2_known_76 (by decide) (fun c_76_9 => ?_) (fun c_76_9 => ?_)
        · refine lv_iinc (v := nI (j18 + 1)) (lv' := [(4, .int (nI (j18 + 1))), (3, .int (s_X0_comesOf n hd fi un (asd ||| may) on (s_X0_comesOf n hd fi un asd on more))), (2, .int (s_X0_comesOf n hd fi un asd on more)), (6, .int more), (5, .int less), (0, .ref (h 0)), (1, .int a)]) hx hb dX2_known_88 hl (k := 6) rfl (inc_nI j18) (by decide) rfl (fun ls hl => ?_)
          refine lv_goto (tgt := 18) hx hb dX2_known_91 (by decide) ?_
          exact ih18 (j18 + 1) (by omega) (s_X0_comesOf n hd fi un asd on more) (s_X0_comesOf n hd fi un (asd ||| may) on (s_X0_comesOf n hd fi un asd on more)) (itE_succ he18 (by (unfold f_X2_known_18; (try dsimp only); (try rw [if_neg c_76_9]); first | done | rfl)))   _ _ hP hS _ (lv_sub hl [5, 6, 2, 1, 0] rfl)
        · refine lv_iload_n hx hb dX2_known_79 rfl (lv_at hl 0 rfl) ?_
          refine lv_iload hx hb dX2_known_80 (lv_at hl 2 rfl) ?_
          refine lv_icmp_ne (tgt := 88) hx hb dX2_known_82 (by decide) (fun c_82_10 => ?_) (fun c_82_10 => ?_)
          · refine lv_iinc (v := nI (j18 + 1)) (lv' := [(4, .int (nI (j18 + 1))), (3, .int (s_X0_comesOf n hd fi un (asd ||| may) on (s_X0_comesOf n hd fi un asd on more))), (2, .int (s_X0_comesOf n hd fi un asd on more)), (6, .int more), (5, .int less), (0, .ref (h 0)), (1, .int a)]) hx hb dX2_known_88 hl (k := 6) rfl (inc_nI j18) (by decide) rfl (fun ls hl => ?_)
            refine lv_goto (tgt := 18) hx hb dX2_known_91 (by decide) ?_
            exact ih18 (j18 + 1) (by omega) (s_X0_comesOf n hd fi un asd on more) (s_X0_comesOf n hd fi un (asd ||| may) on (s_X0_comesOf n hd fi un asd on more)) (itE_succ he18 (by (unfold f_X2_known_18; (try dsimp only); (try rw [if_pos c_76_9]); (try rw [if_neg c_82_10]); first | done | rfl)))   _ _ hP hS _ (lv_sub hl [5, 6, 2, 1, 0] rfl)
          · refine lv_goto (tgt := 94) hx hb dX2_known_85 (by decide) ?_
            refine lv_iload_n hx hb dX2_known_94 rfl (lv_at hl 1 rfl) ?_
            refine lv_iload_n hx hb dX2_known_95 rfl (lv_at hl 5 rfl) ?_
            refine ro_i (D := D) (va_runS (As := [.int (s_X0_comesOf n hd fi un asd on more), .int a]) (rest := []) ⟨hx, hb, hml, hown, hts⟩ (c_X2_bitOf l D (s_X0_comesOf n hd fi un asd on more) a  _) (va_cwS 2 hts gX2_known_X2_bitOf rfl rfl rfl (by decide +kernel) ⟨Nat.le_of_ble_eq_true rfl, Nat.le_of_ble_eq_true rfl⟩) ⟨cPre.blind, cPre.mk vP0 hKe vD0 hN⟩ rfl rfl hl.1 rfl (lv_room (Nat.le_of_ble_eq_true rfl)) dX2_known_96 ⟨Nat.zero_le _, Nat.zero_le _⟩) hS hA (fun H locs hkp0 hS => ?_)
            replace hP := hkp0 _ hP
            refine lv_iconst (v := 1) hx hb dX2_known_99 (by decide) ?_
            refine lv_icmp_ne (tgt := 105) hx hb dX2_known_100 (by decide) (fun c_100_11 => ?_) (fun c_100_11 => ?_)
            · refine lv_iload_n hx hb dX2_known_105 rfl (lv_at hl 0 rfl) ?_
              refine lv_iload_n hx hb dX2_known_106 rfl (lv_at hl 5 rfl) ?_
              refine ro_i (D := D) (va_runS (As := [.int (s_X0_comesOf n hd fi un (asd ||| may) on (s_X0_comesOf n hd fi un asd on more)), .int a]) (rest := []) ⟨hx, hb, hml, hown, hts⟩ (c_X2_bitOf l D (s_X0_comesOf n hd fi un (asd ||| may) on (s_X0_comesOf n hd fi un asd on more)) a  _) (va_cwS 2 hts gX2_known_X2_bitOf rfl rfl rfl (by decide +kernel) ⟨Nat.le_of_ble_eq_true rfl, Nat.le_of_ble_eq_true rfl⟩) ⟨cPre.blind, cPre.mk vP0 hKe vD0 hN⟩ rfl rfl hl.1 rfl (lv_room (Nat.le_of_ble_eq_true rfl)) dX2_known_107 ⟨Nat.zero_le _, Nat.zero_le _⟩) hS hA (fun H locs hkp0 hS => ?_)
              replace hP := hkp0 _ hP
              refine lv_if_ne (tgt := 117) hx hb dX2_known_110 (by decide) (fun c_110_12 => ?_) (fun c_110_12 => ?_)
              · refine lv_bipush (v := (-9)) hx hb dX2_known_117 (by decide) ?_
                have hs_13 : itE (f_X2_known_18 n may hd fi un on asd a) (0, 255) (j18 + 1) = (.inl (-9)) := itE_succ he18 (by (unfold f_X2_known_18; (try dsimp only); (try rw [if_pos c_76_9]); (try rw [if_pos c_82_10]); (try rw [if_neg c_100_11]); (try rw [if_neg c_110_12]); first | done | rfl))
                have hn_14 := itE_stop hs_13 17 (by omega)
                exact ro_iret hx hb hr hS hlocks (show s_X2_known n may hd fi un on asd a = (-9) from by (unfold s_X2_known; (try dsimp only); (try rw [if_neg c_4_1]); (try rw [hn_14]); (try dsimp only [onE]); first | done | rfl)).symm dX2_known_119
              · refine lv_iconst (v := 0) hx hb dX2_known_113 (by decide) ?_
                refine lv_goto (tgt := 119) hx hb dX2_known_114 (by decide) ?_
                have hs_15 : itE (f_X2_known_18 n may hd fi un on asd a) (0, 255) (j18 + 1) = (.inl 0) := itE_succ he18 (by (unfold f_X2_known_18; (try dsimp only); (try rw [if_pos c_76_9]); (try rw [if_pos c_82_10]); (try rw [if_neg c_100_11]); (try rw [if_pos c_110_12]); first | done | rfl))
                have hn_16 := itE_stop hs_15 17 (by omega)
                exact ro_iret hx hb hr hS hlocks (show s_X2_known n may hd fi un on asd a = 0 from by (unfold s_X2_known; (try dsimp only); (try rw [if_neg c_4_1]); (try rw [hn_16]); (try dsimp only [onE]); first | done | rfl)).symm dX2_known_119
            · refine lv_iconst (v := 1) hx hb dX2_known_103 (by decide) ?_
              have hs_17 : itE (f_X2_known_18 n may hd fi un on asd a) (0, 255) (j18 + 1) = (.inl 1) := itE_succ he18 (by (unfold f_X2_known_18; (try dsimp only); (try rw [if_pos c_76_9]); (try rw [if_pos c_82_10]); (try rw [if_pos c_100_11]); first | done | rfl))
              have hn_18 := itE_stop hs_17 17 (by omega)
              exact ro_iret hx hb hr hS hlocks (show s_X2_known n may hd fi un on asd a = 1 from by (unfold s_X2_known; (try dsimp only); (try rw [if_neg c_4_1]); (try rw [hn_18]); (try dsimp only [onE]); first | done | rfl)).symm dX2_known_104
    exact lp18_2 17 0 (by omega) 0 255 (itE_zero _ _)   _ _ hP hS _ (lv_sub hl [3, 4, 2, 1, 0] rfl)
  · refine lv_iconst (v := (-1)) hx hb dX2_known_7 (by decide) ?_
    exact ro_iret hx hb hr hS hlocks (show s_X2_known n may hd fi un on asd a = (-1) from by (unfold s_X2_known; (try dsimp only); (try rw [if_pos c_4_1]); first | done | rfl)).symm dX2_known_8

def f_X2_why_87 (n : Nat) (may : Int32) (hd : Nat → Int32) (fi : Nat → Int32) (un : Nat → Int32) (on : Int32) (asd : Int32) (i : Int32) (a : Int32) (what : Int32) (j87 : Nat) (st : Int32) : Int32 ⊕ (Int32) := match st with | came => (if (s_X0_firstRuleBringing n hd fi un a came on (s_X2_standingSet n may hd fi un on asd i)) = (-9) then (.inr (s_X0_nextRound n hd fi un came on (s_X2_standingSet n may hd fi un on asd i))) else (if what = 0 then (.inl (nI (j87 + 1))) else (.inl (s_X0_firstRuleBringing n hd fi un a came on (s_X2_standingSet n may hd fi un on asd i)))))
def s_X2_why (n : Nat) (may : Int32) (hd : Nat → Int32) (fi : Nat → Int32) (un : Nat → Int32) (on : Int32) (asd : Int32) (i : Int32) (a : Int32) (what : Int32) : Int32 := (if i < 0 then (-1) else (if (s_X2_isSentence a) = 0 then (-1) else (if (s_X2_isBit what) = 0 then (-1) else (if (s_X2_standingSet n may hd fi un on asd i) = (-9) then (-9) else (if (s_X2_bitOf (s_X2_standingSet n may hd fi un on asd i) a) = 0 then (-9) else (if (s_X2_bitOf (asd ||| (may &&& (s_X2_standingSet n may hd fi un on asd i))) a) = 1 then (if what = 0 then 0 else (-9)) else (onE (itE (f_X2_why_87 n may hd fi un on asd i a what) (asd ||| (may &&& (s_X2_standingSet n may hd fi un on asd i))) 8) (fun st => match st with | came => (-9)))))))))
set_option maxHeartbeats 4000000 in
set_option maxRecDepth 100000 in
theorem c_X2_why (l : Launch) (D : va_G) (h : Nat → Nat) (cA : Nat → ClassId) (n : Nat) (by_ : Nat → Int32) (ln : Int32) (pl : Int32) (tk : Int32) (tp : Int32) (may : Int32) (hd : Nat → Int32) (fi : Nat → Int32) (un : Nat → Int32) (sz2 : Int32) (may2 : Int32) (hd2 : Nat → Int32) (fi2 : Nat → Int32) (un2 : Nat → Int32) (on : Int32) (asd : Int32) (io : Nat → Int32) (ia : Nat → Int32) (kept : Int32) (tr : Int64) (i : Int32) (a : Int32) (what : Int32) (hn : n ≤ 10) (sz : Nat) : Met l yX2_why wsX2_why ({ frames := 5, cells := 0, slots := 0, locals := 120 }) (va_Pc [.ref (h 0), .int i, .int a, .int what] (cPre D (tX h cA) (wX h cA by_ ln pl tk tp (nI n) may hd fi un sz2 may2 hd2 fi2 un2 on asd io ia kept tr) sz)) (va_Qi (fun r (_ : Unit) => r = s_X2_why n may hd fi un on asd i a what) (fun _ _ => True) (fun q => sz ≤ q)) 0 0 (fun q => sz ≤ q) := by
  refine Met.ofW (cc := cX2_why) (maxL := 8) (ret := (some .int)) (by decide) rfl ?_
  intro p e s m args below meth c s₁ B hml hv
  obtain ⟨rfl, hsz, hP, hK, hD, hN⟩ := hv
  have hx := B.exec
  have hb := B.bytes
  have hr := B.returns
  have hts := atoms_spec (ws := wsX2_why) B.pre
  have hown : s.vm.findClass RX2 = some m.cls := findClass_of_methodNamed B.named
  have hlocks := B.notSynchronized
  have hinX0 : ∀ w ∈ wsX00, w ∈ wsX2_why := fun w h => List.mem_cons_of_mem _ (List.mem_append_right _ h)
  have hinX2 : ∀ w ∈ wsX20, w ∈ wsX2_why := fun w h => List.mem_cons_of_mem _ (List.mem_append_left _ (List.mem_append_right _ h))
  subst hsz
  obtain ⟨A, hAe⟩ : ∃ A : Nat → Prop, A = (fun q : Nat => s.heap.size ≤ q) := ⟨_, rfl⟩
  have hA : ∀ q : Nat, s.heap.size ≤ q → A q := fun q h => by rw [hAe]; exact h
  have hS : va_S A s.heap s.heap [] := va_S.rf
  subst hAe
  have hl := lv_entry ([.ref (h 0), .int i, .int a, .int what]) (n := 8) (Nat.le_of_ble_eq_true rfl)
  rw [lg_entry_eq]
  generalize (lg_sl ([.ref (h 0), .int i, .int a, .int what]) ++ List.replicate (8 - (lg_sl ([.ref (h 0), .int i, .int a, .int what])).length) Slot.unset).toArray = ls at hl ⊢
  replace hl : lv_has ls 8 [(0, .ref (h 0)), (1, .int i), (2, .int a), (3, .int what)] := hl
  have hKe := hK.sub (tys' := []) [] rfl
  refine lv_iload_n hx hb dX2_why_0 rfl (lv_at hl 1 rfl) ?_
  refine lv_if_lt (tgt := 18) hx hb dX2_why_1 (by decide) (fun c_1_1 => ?_) (fun c_1_1 => ?_)
  · refine lv_iconst (v := (-1)) hx hb dX2_why_18 (by decide) ?_
    exact ro_iret hx hb hr hS hlocks (show s_X2_why n may hd fi un on asd i a what = (-1) from by (unfold s_X2_why; (try dsimp only); (try rw [if_pos c_1_1]); first | done | rfl)).symm dX2_why_19
  · refine lv_iload_n hx hb dX2_why_4 rfl (lv_at hl 2 rfl) ?_
    refine ro_i (D := D) (va_runS (As := [.int a]) (rest := []) ⟨hx, hb, hml, hown, hts⟩ (c_X2_isSentence l D a  _) (va_cwS 1 hts gX2_why_X2_isSentence rfl rfl rfl (by decide +kernel) ⟨Nat.le_of_ble_eq_true rfl, Nat.le_of_ble_eq_true rfl⟩) ⟨cPre.blind, cPre.mk vP0 hKe vD0 hN⟩ rfl rfl hl.1 rfl (lv_room (Nat.le_of_ble_eq_true rfl)) dX2_why_5 ⟨Nat.zero_le _, Nat.zero_le _⟩) hS hA (fun H locs hkp0 hS => ?_)
    replace hP := hkp0 _ hP
    refine lv_if_eq (tgt := 18) hx hb dX2_why_8 (by decide) (fun c_8_2 => ?_) (fun c_8_2 => ?_)
    · refine lv_iconst (v := (-1)) hx hb dX2_why_18 (by decide) ?_
      exact ro_iret hx hb hr hS hlocks (show s_X2_why n may hd fi un on asd i a what = (-1) from by (unfold s_X2_why; (try dsimp only); (try rw [if_neg c_1_1]); (try rw [if_pos c_8_2]); first | done | rfl)).symm dX2_why_19
    · refine lv_iload_n hx hb dX2_why_11 rfl (lv_at hl 3 rfl) ?_
      refine ro_i (D := D) (va_runS (As := [.int what]) (rest := []) ⟨hx, hb, hml, hown, hts⟩ (c_X2_isBit l D what  _) (va_cwS 1 hts gX2_why_X2_isBit rfl rfl rfl (by decide +kernel) ⟨Nat.le_of_ble_eq_true rfl, Nat.le_of_ble_eq_true rfl⟩) ⟨cPre.blind, cPre.mk vP0 hKe vD0 hN⟩ rfl rfl hl.1 rfl (lv_room (Nat.le_of_ble_eq_true rfl)) dX2_why_12 ⟨Nat.zero_le _, Nat.zero_le _⟩) hS hA (fun H locs hkp0 hS => ?_)
      replace hP := hkp0 _ hP
      refine lv_if_ne (tgt := 20) hx hb dX2_why_15 (by decide) (fun c_15_3 => ?_) (fun c_15_3 => ?_)
      · refine lv_aload_n hx hb dX2_why_20 rfl (lv_at hl 0 rfl) ?_
        refine lv_iload_n hx hb dX2_why_21 rfl (lv_at hl 1 rfl) ?_
        refine ro_i (D := D) (va_runV (As := [.int i]) (rest := []) ⟨hx, hb, hml, hown, hts⟩ (c_X2_standingSet l D h cA n by_ ln pl tk tp may hd fi un sz2 may2 hd2 fi2 un2 on asd io ia kept tr i (by first | assumption | omega) _) (cwV 1 hts gX2_why_X2_standingSet rfl rfl rfl (by decide +kernel) ⟨Nat.le_of_ble_eq_true rfl, Nat.le_of_ble_eq_true rfl⟩) ⟨cPre.blind, va_recv hK hP (ci := 2) (q0 := 0) rfl rfl, cPre.mk hP hK hD hN⟩ rfl rfl hl.1 rfl (lv_room (Nat.le_of_ble_eq_true rfl)) dX2_why_22 ⟨Nat.zero_le _, Nat.zero_le _⟩) hS hA (fun H locs hkp0 hS => ?_)
        replace hP := hkp0 _ hP
        refine lv_istore (lv' := [(4, .int (s_X2_standingSet n may hd fi un on asd i)), (0, .ref (h 0)), (1, .int i), (2, .int a), (3, .int what)]) hx hb dX2_why_25 hl (by decide) rfl (fun ls hl => ?_)
        refine lv_iload hx hb dX2_why_27 (lv_at hl 0 rfl) ?_
        refine lv_bipush (v := (-9)) hx hb dX2_why_29 (by decide) ?_
        refine lv_icmp_eq (tgt := 43) hx hb dX2_why_31 (by decide) (fun c_31_4 => ?_) (fun c_31_4 => ?_)
        · refine lv_bipush (v := (-9)) hx hb dX2_why_43 (by decide) ?_
          exact ro_iret hx hb hr hS hlocks (show s_X2_why n may hd fi un on asd i a what = (-9) from by (unfold s_X2_why; (try dsimp only); (try rw [if_neg c_1_1]); (try rw [if_neg c_8_2]); (try rw [if_neg c_15_3]); (try rw [if_pos c_31_4]); first | done | rfl)).symm dX2_why_45
        · refine lv_iload hx hb dX2_why_34 (lv_at hl 0 rfl) ?_
          refine lv_iload_n hx hb dX2_why_36 rfl (lv_at hl 3 rfl) ?_
          refine ro_i (D := D) (va_runS (As := [.int (s_X2_standingSet n may hd fi un on asd i), .int a]) (rest := []) ⟨hx, hb, hml, hown, hts⟩ (c_X2_bitOf l D (s_X2_standingSet n may hd fi un on asd i) a  _) (va_cwS 2 hts gX2_why_X2_bitOf rfl rfl rfl (by decide +kernel) ⟨Nat.le_of_ble_eq_true rfl, Nat.le_of_ble_eq_true rfl⟩) ⟨cPre.blind, cPre.mk vP0 hKe vD0 hN⟩ rfl rfl hl.1 rfl (lv_room (Nat.le_of_ble_eq_true rfl)) dX2_why_37 ⟨Nat.zero_le _, Nat.zero_le _⟩) hS hA (fun H locs hkp0 hS => ?_)
          replace hP := hkp0 _ hP
          refine lv_if_ne (tgt := 46) hx hb dX2_why_40 (by decide) (fun c_40_5 => ?_) (fun c_40_5 => ?_)
          · refine lv_aload_n hx hb dX2_why_46 rfl (lv_at hl 1 rfl) ?_
            refine va_get (D := D) (ci := 2) (v := .int asd) (C := RX2) (T := TX2) (N := 9) hx hb hts hinX2 hown hK hP 0 rfl rfl 4 (by decide) (hts (.fieldLink RX2 54 "HoldUnless" "assumed" "I") (by decide +kernel)) (fun _ h9 => h9) rfl dX2_why_47 ?_
            refine lv_aload_n hx hb dX2_why_50 rfl (lv_at hl 1 rfl) ?_
            refine va_get (D := D) (ci := 2) (v := .ref (h 3)) (C := RX2) (T := TX2) (N := 9) hx hb hts hinX2 hown hK hP 0 rfl rfl 1 (by decide) (hts (.fieldLink RX2 19 "HoldUnless" "book" "LHoldUnless$RuleBook;") (by decide +kernel)) (fun _ h9 => h9) rfl dX2_why_51 ?_
            refine va_getN (D := D) (ci := 0) (v := .int may) (C := RX0) (T := TX0) (N := 5) hx hb hts hinX0 hown hK hP 3 rfl rfl 1 (by decide) (hN.use 20 rfl) (fun _ h9 => h9) rfl dX2_why_54 ?_
            refine lv_iload hx hb dX2_why_57 (lv_at hl 0 rfl) ?_
            refine lv_iand hx hb dX2_why_59 ?_
            refine lv_ior hx hb dX2_why_60 ?_
            refine lv_istore (lv' := [(5, .int (asd ||| (may &&& (s_X2_standingSet n may hd fi un on asd i)))), (4, .int (s_X2_standingSet n may hd fi un on asd i)), (0, .ref (h 0)), (1, .int i), (2, .int a), (3, .int what)]) hx hb dX2_why_61 hl (by decide) rfl (fun ls hl => ?_)
            refine lv_iload hx hb dX2_why_63 (lv_at hl 0 rfl) ?_
            refine lv_iload_n hx hb dX2_why_65 rfl (lv_at hl 4 rfl) ?_
            refine ro_i (D := D) (va_runS (As := [.int (asd ||| (may &&& (s_X2_standingSet n may hd fi un on asd i))), .int a]) (rest := []) ⟨hx, hb, hml, hown, hts⟩ (c_X2_bitOf l D (asd ||| (may &&& (s_X2_standingSet n may hd fi un on asd i))) a  _) (va_cwS 2 hts gX2_why_X2_bitOf rfl rfl rfl (by decide +kernel) ⟨Nat.le_of_ble_eq_true rfl, Nat.le_of_ble_eq_true rfl⟩) ⟨cPre.blind, cPre.mk vP0 hKe vD0 hN⟩ rfl rfl hl.1 rfl (lv_room (Nat.le_of_ble_eq_true rfl)) dX2_why_66 ⟨Nat.zero_le _, Nat.zero_le _⟩) hS hA (fun H locs hkp0 hS => ?_)
            replace hP := hkp0 _ hP
            refine lv_iconst (v := 1) hx hb dX2_why_69 (by decide) ?_
            refine lv_icmp_ne (tgt := 84) hx hb dX2_why_70 (by decide) (fun c_70_6 => ?_) (fun c_70_6 => ?_)
            · refine lv_iconst (v := 1) hx hb dX2_why_84 (by decide) ?_
              refine lv_istore (lv' := [(6, .int 1), (5, .int (asd ||| (may &&& (s_X2_standingSet n may hd fi un on asd i)))), (4, .int (s_X2_standingSet n may hd fi un on asd i)), (0, .ref (h 0)), (1, .int i), (2, .int a), (3, .int what)]) hx hb dX2_why_85 hl (by decide) rfl (fun ls hl => ?_)
              have lp87_7 : ∀ (z_7 j87 : Nat), j87 + z_7 = 8 → ∀ (came : Int32), itE (f_X2_why_87 n may hd fi un on asd i a what) (asd ||| (may &&& (s_X2_standingSet n may hd fi un on asd i))) j87 = .inr came → ∀  (H : Heap) (locs : List Loc), va_P D vwCl (wX h cA by_ ln pl tk tp (nI n) may hd fi un sz2 may2 hd2 fi2 un2 on asd io ia kept tr) H → va_S (fun q : Nat => s.heap.size ≤ q) s.heap H locs → ∀ ls : Array Slot, lv_has ls 8 [(0, .ref (h 0)), (1, .int i), (2, .int a), (3, .int what), (4, .int (s_X2_standingSet n may hd fi un on asd i)), (5, .int came), (6, .int (nI (j87 + 1)))] → W p l e (headSpec wsX2_why ({ frames := 5, cells := 0, slots := 0, locals := 120 })).room s m ([.ref (h 0), .int i, .int a, .int what] : List Value).toArray below meth c H locs 0 0 (MQ below (va_Qi (fun r (_ : Unit) => r = s_X2_why n may hd fi un on asd i a what) (fun _ _ => True) (fun q => s.heap.size ≤ q)) ([.ref (h 0), .int i, .int a, .int what] : List Value).toArray s 0 0 (fun q => s.heap.size ≤ q)) (F0 m 87 ls []) := by
                intro z_7
                induction z_7 with
                | zero =>
                  intro j87 hj87 came he87   H locs hP hS ls hl
                  obtain rfl : 8 = j87 := by omega
                  refine lv_iload hx hb dX2_why_87 (lv_at hl 6 rfl) ?_
                  refine lv_bipush (v := 8) hx hb dX2_why_89 (by decide) ?_
                  refine lv_icmp_gt (tgt := 154) hx hb dX2_why_91 (by decide) (fun _ => ?_) (fun hh_9 => absurd (nI_lt (a := 8) (b := 8 + 1) (by omega) (by omega)) hh_9)
                  refine lv_bipush (v := (-9)) hx hb dX2_why_154 (by decide) ?_
                  exact ro_iret hx hb hr hS hlocks (show s_X2_why n may hd fi un on asd i a what = (-9) from by (unfold s_X2_why; (try dsimp only); (try rw [if_neg c_1_1]); (try rw [if_neg c_8_2]); (try rw [if_neg c_15_3]); (try rw [if_neg c_31_4]); (try rw [if_neg c_40_5]); (try rw [if_neg c_70_6]); (try rw [he87]); (try dsimp only [onE]); first | done | rfl)).symm dX2_why_156
                | succ z_7 ih87 =>
                  intro j87 hj87 came he87   H locs hP hS ls hl
                  refine lv_iload hx hb dX2_why_87 (lv_at hl 6 rfl) ?_
                  refine lv_bipush (v := 8) hx hb dX2_why_89 (by decide) ?_
                  refine lv_icmp_gt (tgt := 154) hx hb dX2_why_91 (by decide) (fun hh_11 => absurd hh_11 (nI_nlt (a := 8) (b := j87 + 1) (by omega) (by omega))) (fun _ => ?_)
                  refine lv_aload_n hx hb dX2_why_94 rfl (lv_at hl 0 rfl) ?_
                  refine va_get (D := D) (ci := 2) (v := .ref (h 3)) (C := RX2) (T := TX2) (N := 9) hx hb hts hinX2 hown hK hP 0 rfl rfl 1 (by decide) (hts (.fieldLink RX2 19 "HoldUnless" "book" "LHoldUnless$RuleBook;") (by decide +kernel)) (fun _ h9 => h9) rfl dX2_why_95 ?_
                  refine lv_iload_n hx hb dX2_why_98 rfl (lv_at hl 2 rfl) ?_
                  refine lv_iload hx hb dX2_why_99 (lv_at hl 5 rfl) ?_
                  refine lv_aload_n hx hb dX2_why_101 rfl (lv_at hl 0 rfl) ?_
                  refine va_get (D := D) (ci := 2) (v := .int on) (C := RX2) (T := TX2) (N := 9) hx hb hts hinX2 hown hK hP 0 rfl rfl 3 (by decide) (hts (.fieldLink RX2 51 "HoldUnless" "on" "I") (by decide +kernel)) (fun _ h9 => h9) rfl dX2_why_102 ?_
                  refine lv_iload hx hb dX2_why_105 (lv_at hl 4 rfl) ?_
                  have hPc := hP.sub (ws' := (wB (h 3) (h 4) (h 5) (h 6) (cA 4) (cA 5) (cA 6) (nI n) may hd fi un)) [3, 4, 5, 6] rfl
                  have hDc := hD.sub (ws' := (wB (h 3) (h 4) (h 5) (h 6) (cA 4) (cA 5) (cA 6) (nI n) may hd fi un)) [3, 4, 5, 6] (by decide) rfl
                  have hKc := hK.sub (tys' := (tB (h 3) (h 4) (h 5) (h 6) (cA 4) (cA 5) (cA 6))) [1, 2, 3] rfl
                  refine ro_i (D := D) (va_runVN (As := [.int a, .int came, .int on, .int (s_X2_standingSet n may hd fi un on asd i)]) (rest := []) ⟨hx, hb, hml, hown, hts⟩ (c_X0_firstRuleBringing l D (h 3) (h 4) (h 5) (h 6) (cA 4) (cA 5) (cA 6) n may hd fi un a came on (s_X2_standingSet n may hd fi un on asd i) (by first | assumption | omega) _) ⟨(va_cnB 4 hts gX2_why_X0_firstRuleBringing_n104 rfl rfl rfl (hN.nw 11 rfl) (hts (.initialized RX0) (by decide +kernel)) (by decide +kernel) ⟨Nat.le_of_ble_eq_true rfl, Nat.le_of_ble_eq_true rfl⟩), hts (.instanceMethod yX0_firstRuleBringing) (by decide +kernel), hts (.selects RX0 yX0_firstRuleBringing yX0_firstRuleBringing) (by decide +kernel)⟩ ⟨cPre.blind, va_recv hKc hPc (ci := 0) (q0 := 0) rfl rfl, cPre.mk hPc hKc hDc hN⟩ rfl rfl hl.1 rfl (lv_room (Nat.le_of_ble_eq_true rfl)) dX2_why_107 ⟨Nat.zero_le _, Nat.zero_le _⟩) hS hA (fun H locs hkp0 hS => ?_)
                  replace hP := hkp0 _ hP
                  refine lv_istore (lv' := [(7, .int (s_X0_firstRuleBringing n hd fi un a came on (s_X2_standingSet n may hd fi un on asd i))), (0, .ref (h 0)), (1, .int i), (2, .int a), (3, .int what), (4, .int (s_X2_standingSet n may hd fi un on asd i)), (5, .int came), (6, .int (nI (j87 + 1)))]) hx hb dX2_why_110 hl (by decide) rfl (fun ls hl => ?_)
                  refine lv_iload hx hb dX2_why_112 (lv_at hl 0 rfl) ?_
                  refine lv_bipush (v := (-9)) hx hb dX2_why_114 (by decide) ?_
                  refine lv_icmp_eq (tgt := 131) hx hb dX2_why_116 (by decide) (fun c_116_12 => ?_) (fun c_116_12 => ?_)
                  · refine lv_aload_n hx hb dX2_why_131 rfl (lv_at hl 1 rfl) ?_
                    refine va_get (D := D) (ci := 2) (v := .ref (h 3)) (C := RX2) (T := TX2) (N := 9) hx hb hts hinX2 hown hK hP 0 rfl rfl 1 (by decide) (hts (.fieldLink RX2 19 "HoldUnless" "book" "LHoldUnless$RuleBook;") (by decide +kernel)) (fun _ h9 => h9) rfl dX2_why_132 ?_
                    refine lv_iload hx hb dX2_why_135 (lv_at hl 6 rfl) ?_
                    refine lv_aload_n hx hb dX2_why_137 rfl (lv_at hl 1 rfl) ?_
                    refine va_get (D := D) (ci := 2) (v := .int on) (C := RX2) (T := TX2) (N := 9) hx hb hts hinX2 hown hK hP 0 rfl rfl 3 (by decide) (hts (.fieldLink RX2 51 "HoldUnless" "on" "I") (by decide +kernel)) (fun _ h9 => h9) rfl dX2_why_138 ?_
                    refine lv_iload hx hb dX2_why_141 (lv_at hl 5 rfl) ?_
                    have hPc := hP.sub (ws' := (wB (h 3) (h 4) (h 5) (h 6) (cA 4) (cA 5) (cA 6) (nI n) may hd fi un)) [3, 4, 5, 6] rfl
                    have hDc := hD.sub (ws' := (wB (h 3) (h 4) (h 5) (h 6) (cA 4) (cA 5) (cA 6) (nI n) may hd fi un)) [3, 4, 5, 6] (by decide) rfl
                    have hKc := hK.sub (tys' := (tB (h 3) (h 4) (h 5) (h 6) (cA 4) (cA 5) (cA 6))) [1, 2, 3] rfl
                    refine ro_i (D := D) (va_runVN (As := [.int came, .int on, .int (s_X2_standingSet n may hd fi un on asd i)]) (rest := []) ⟨hx, hb, hml, hown, hts⟩ (c_X0_nextRound l D (h 3) (h 4) (h 5) (h 6) (cA 4) (cA 5) (cA 6) n may hd fi un came on (s_X2_standingSet n may hd fi un on asd i) (by first | assumption | omega) _) ⟨(va_cnB 3 hts gX2_why_X0_nextRound_n108 rfl rfl rfl (hN.nw 12 rfl) (hts (.initialized RX0) (by decide +kernel)) (by decide +kernel) ⟨Nat.le_of_ble_eq_true rfl, Nat.le_of_ble_eq_true rfl⟩), hts (.instanceMethod yX0_nextRound) (by decide +kernel), hts (.selects RX0 yX0_nextRound yX0_nextRound) (by decide +kernel)⟩ ⟨cPre.blind, va_recv hKc hPc (ci := 0) (q0 := 0) rfl rfl, cPre.mk hPc hKc hDc hN⟩ rfl rfl hl.1 rfl (lv_room (Nat.le_of_ble_eq_true rfl)) dX2_why_143 ⟨Nat.zero_le _, Nat.zero_le _⟩) hS hA (fun H locs hkp0 hS => ?_)
                    replace hP := hkp0 _ hP
                    refine lv_istore (lv' := [(5, .int (s_X0_nextRound n hd fi un came on (s_X2_standingSet n may hd fi un on asd i))), (7, .int (s_X0_firstRuleBringing n hd fi un a came on (s_X2_standingSet n may hd fi un on asd i))), (0, .ref (h 0)), (1, .int i), (2, .int a), (3, .int what), (4, .int (s_X2_standingSet n may hd fi un on asd i)), (6, .int (nI (j87 + 1)))]) hx hb dX2_why_146 hl (by decide) rfl (fun ls hl => ?_)
                    refine lv_iinc (v := nI ((j87 + 1) + 1)) (lv' := [(6, .int (nI ((j87 + 1) + 1))), (5, .int (s_X0_nextRound n hd fi un came on (s_X2_standingSet n may hd fi un on asd i))), (7, .int (s_X0_firstRuleBringing n hd fi un a came on (s_X2_standingSet n may hd fi un on asd i))), (0, .ref (h 0)), (1, .int i), (2, .int a), (3, .int what), (4, .int (s_X2_standingSet n may hd fi un on asd i))]) hx hb dX2_why_148 hl (k := 7) rfl (inc_nI (j87 + 1)) (by decide) rfl (fun ls hl => ?_)
                    refine lv_goto (tgt := 87) hx hb dX2_why_151 (by decide) ?_
                    exact ih87 (j87 + 1) (by omega) (s_X0_nextRound n hd fi un came on (s_X2_standingSet n may hd fi un on asd i)) (itE_succ he87 (by (unfold f_X2_why_87; (try dsimp only); (try rw [if_pos c_116_12]); first | done | rfl)))   _ _ hP hS _ (lv_sub hl [3, 4, 5, 6, 7, 1, 0] rfl)
                  · refine lv_iload_n hx hb dX2_why_119 rfl (lv_at hl 4 rfl) ?_
                    refine lv_if_ne (tgt := 128) hx hb dX2_why_120 (by decide) (fun c_120_13 => ?_) (fun c_120_13 => ?_)
                    · refine lv_iload hx hb dX2_why_128 (lv_at hl 0 rfl) ?_
                      have hs_14 : itE (f_X2_why_87 n may hd fi un on asd i a what) (asd ||| (may &&& (s_X2_standingSet n may hd fi un on asd i))) (j87 + 1) = (.inl (s_X0_firstRuleBringing n hd fi un a came on (s_X2_standingSet n may hd fi un on asd i))) := itE_succ he87 (by (unfold f_X2_why_87; (try dsimp only); (try rw [if_neg c_116_12]); (try rw [if_neg c_120_13]); first | done | rfl))
                      have hn_15 := itE_stop hs_14 8 (by omega)
                      exact ro_iret hx hb hr hS hlocks (show s_X2_why n may hd fi un on asd i a what = (s_X0_firstRuleBringing n hd fi un a came on (s_X2_standingSet n may hd fi un on asd i)) from by (unfold s_X2_why; (try dsimp only); (try rw [if_neg c_1_1]); (try rw [if_neg c_8_2]); (try rw [if_neg c_15_3]); (try rw [if_neg c_31_4]); (try rw [if_neg c_40_5]); (try rw [if_neg c_70_6]); (try rw [hn_15]); (try dsimp only [onE]); first | done | rfl)).symm dX2_why_130
                    · refine lv_iload hx hb dX2_why_123 (lv_at hl 7 rfl) ?_
                      refine lv_goto (tgt := 130) hx hb dX2_why_125 (by decide) ?_
                      have hs_16 : itE (f_X2_why_87 n may hd fi un on asd i a what) (asd ||| (may &&& (s_X2_standingSet n may hd fi un on asd i))) (j87 + 1) = (.inl (nI (j87 + 1))) := itE_succ he87 (by (unfold f_X2_why_87; (try dsimp only); (try rw [if_neg c_116_12]); (try rw [if_pos c_120_13]); first | done | rfl))
                      have hn_17 := itE_stop hs_16 8 (by omega)
                      exact ro_iret hx hb hr hS hlocks (show s_X2_why n may hd fi un on asd i a what = nI (j87 + 1) from by (unfold s_X2_why; (try dsimp only); (try rw [if_neg c_1_1]); (try rw [if_neg c_8_2]); (try rw [if_neg c_15_3]); (try rw [if_neg c_31_4]); (try rw [if_neg c_40_5]); (try rw [if_neg c_70_6]); (try rw [hn_17]); (try dsimp only [onE]); first | done | rfl)).symm dX2_why_130
              exact lp87_7 8 0 (by omega) (asd ||| (may &&& (s_X2_standingSet n may hd fi un on asd i))) (itE_zero _ _)   _ _ hP hS _ (lv_sub hl [3, 4, 5, 6, 2, 1, 0] rfl)
            · refine lv_iload_n hx hb dX2_why_73 rfl (lv_at hl 5 rfl) ?_
              refine lv_if_ne (tgt := 81) hx hb dX2_why_74 (by decide) (fun c_74_18 => ?_) (fun c_74_18 => ?_)
              · refine lv_bipush (v := (-9)) hx hb dX2_why_81 (by decide) ?_
                exact ro_iret hx hb hr hS hlocks (show s_X2_why n may hd fi un on asd i a what = (-9) from by (unfold s_X2_why; (try dsimp only); (try rw [if_neg c_1_1]); (try rw [if_neg c_8_2]); (try rw [if_neg c_15_3]); (try rw [if_neg c_31_4]); (try rw [if_neg c_40_5]); (try rw [if_pos c_70_6]); (try rw [if_neg c_74_18]); first | done | rfl)).symm dX2_why_83
              · refine lv_iconst (v := 0) hx hb dX2_why_77 (by decide) ?_
                refine lv_goto (tgt := 83) hx hb dX2_why_78 (by decide) ?_
                exact ro_iret hx hb hr hS hlocks (show s_X2_why n may hd fi un on asd i a what = 0 from by (unfold s_X2_why; (try dsimp only); (try rw [if_neg c_1_1]); (try rw [if_neg c_8_2]); (try rw [if_neg c_15_3]); (try rw [if_neg c_31_4]); (try rw [if_neg c_40_5]); (try rw [if_pos c_70_6]); (try rw [if_pos c_74_18]); first | done | rfl)).symm dX2_why_83
          · refine lv_bipush (v := (-9)) hx hb dX2_why_43 (by decide) ?_
            exact ro_iret hx hb hr hS hlocks (show s_X2_why n may hd fi un on asd i a what = (-9) from by (unfold s_X2_why; (try dsimp only); (try rw [if_neg c_1_1]); (try rw [if_neg c_8_2]); (try rw [if_neg c_15_3]); (try rw [if_neg c_31_4]); (try rw [if_pos c_40_5]); first | done | rfl)).symm dX2_why_45
      · refine lv_iconst (v := (-1)) hx hb dX2_why_18 (by decide) ?_
        exact ro_iret hx hb hr hS hlocks (show s_X2_why n may hd fi un on asd i a what = (-1) from by (unfold s_X2_why; (try dsimp only); (try rw [if_neg c_1_1]); (try rw [if_neg c_8_2]); (try rw [if_pos c_15_3]); first | done | rfl)).symm dX2_why_19

def f_X2_hangs_13 (n : Nat) (hd : Nat → Int32) (fi : Nat → Int32) (un : Nat → Int32) (on : Int32) (what : Int32) (j13 : Nat) (st : Int32) : Int32 := match st with | hanging => (if what = 0 then (if (s_X0_hangsByIf n hd fi (nI j13) on) = 0 then hanging else (hanging ||| (1 <<< ((nI j13) &&& 31)))) else (if (s_X0_isTangled n hd fi un (nI j13) on) = 0 then hanging else (hanging ||| (1 <<< ((nI j13) &&& 31)))))
def s_X2_hangs (n : Nat) (hd : Nat → Int32) (fi : Nat → Int32) (un : Nat → Int32) (on : Int32) (what : Int32) : Int32 := (if (s_X2_isBit what) = 0 then (-1) else (match itr (f_X2_hangs_13 n hd fi un on what) 0 8 with | hanging => hanging))
set_option maxHeartbeats 4000000 in
set_option maxRecDepth 100000 in
theorem c_X2_hangs (l : Launch) (D : va_G) (h : Nat → Nat) (cA : Nat → ClassId) (n : Nat) (by_ : Nat → Int32) (ln : Int32) (pl : Int32) (tk : Int32) (tp : Int32) (may : Int32) (hd : Nat → Int32) (fi : Nat → Int32) (un : Nat → Int32) (sz2 : Int32) (may2 : Int32) (hd2 : Nat → Int32) (fi2 : Nat → Int32) (un2 : Nat → Int32) (on : Int32) (asd : Int32) (io : Nat → Int32) (ia : Nat → Int32) (kept : Int32) (tr : Int64) (what : Int32) (hn : n ≤ 10) (sz : Nat) : Met l yX2_hangs wsX2_hangs ({ frames := 4, cells := 0, slots := 0, locals := 94 }) (va_Pc [.ref (h 0), .int what] (cPre D (tX h cA) (wX h cA by_ ln pl tk tp (nI n) may hd fi un sz2 may2 hd2 fi2 un2 on asd io ia kept tr) sz)) (va_Qi (fun r (_ : Unit) => r = s_X2_hangs n hd fi un on what) (fun _ _ => True) (fun q => sz ≤ q)) 0 0 (fun q => sz ≤ q) := by
  refine Met.ofW (cc := cX2_hangs) (maxL := 5) (ret := (some .int)) (by decide) rfl ?_
  intro p e s m args below meth c s₁ B hml hv
  obtain ⟨rfl, hsz, hP, hK, hD, hN⟩ := hv
  have hx := B.exec
  have hb := B.bytes
  have hr := B.returns
  have hts := atoms_spec (ws := wsX2_hangs) B.pre
  have hown : s.vm.findClass RX2 = some m.cls := findClass_of_methodNamed B.named
  have hlocks := B.notSynchronized
  have hinX2 : ∀ w ∈ wsX20, w ∈ wsX2_hangs := fun w h => List.mem_cons_of_mem _ (List.mem_append_left _ (List.mem_append_right _ h))
  subst hsz
  obtain ⟨A, hAe⟩ : ∃ A : Nat → Prop, A = (fun q : Nat => s.heap.size ≤ q) := ⟨_, rfl⟩
  have hA : ∀ q : Nat, s.heap.size ≤ q → A q := fun q h => by rw [hAe]; exact h
  have hS : va_S A s.heap s.heap [] := va_S.rf
  subst hAe
  have hl := lv_entry ([.ref (h 0), .int what]) (n := 5) (Nat.le_of_ble_eq_true rfl)
  rw [lg_entry_eq]
  generalize (lg_sl ([.ref (h 0), .int what]) ++ List.replicate (5 - (lg_sl ([.ref (h 0), .int what])).length) Slot.unset).toArray = ls at hl ⊢
  replace hl : lv_has ls 5 [(0, .ref (h 0)), (1, .int what)] := hl
  have hKe := hK.sub (tys' := []) [] rfl
  refine lv_iload_n hx hb dX2_hangs_0 rfl (lv_at hl 1 rfl) ?_
  refine ro_i (D := D) (va_runS (As := [.int what]) (rest := []) ⟨hx, hb, hml, hown, hts⟩ (c_X2_isBit l D what  _) (va_cwS 1 hts gX2_hangs_X2_isBit rfl rfl rfl (by decide +kernel) ⟨Nat.le_of_ble_eq_true rfl, Nat.le_of_ble_eq_true rfl⟩) ⟨cPre.blind, cPre.mk vP0 hKe vD0 hN⟩ rfl rfl hl.1 rfl (lv_room (Nat.le_of_ble_eq_true rfl)) dX2_hangs_1 ⟨Nat.zero_le _, Nat.zero_le _⟩) hS hA (fun H locs hkp0 hS => ?_)
  replace hP := hkp0 _ hP
  refine lv_if_ne (tgt := 9) hx hb dX2_hangs_4 (by decide) (fun c_4_1 => ?_) (fun c_4_1 => ?_)
  · refine lv_iconst (v := 0) hx hb dX2_hangs_9 (by decide) ?_
    refine lv_istore_n (lv' := [(2, .int 0), (0, .ref (h 0)), (1, .int what)]) hx hb dX2_hangs_10 rfl hl (by decide) rfl (fun ls hl => ?_)
    refine lv_iconst (v := 0) hx hb dX2_hangs_11 (by decide) ?_
    refine lv_istore_n (lv' := [(3, .int 0), (2, .int 0), (0, .ref (h 0)), (1, .int what)]) hx hb dX2_hangs_12 rfl hl (by decide) rfl (fun ls hl => ?_)
    have lp13_2 : ∀ (z_2 j13 : Nat), j13 + z_2 = 8 → ∀ (hanging : Int32), hanging = itr (f_X2_hangs_13 n hd fi un on what) 0 j13 → ∀  (H : Heap) (locs : List Loc), va_P D vwCl (wX h cA by_ ln pl tk tp (nI n) may hd fi un sz2 may2 hd2 fi2 un2 on asd io ia kept tr) H → va_S (fun q : Nat => s.heap.size ≤ q) s.heap H locs → ∀ ls : Array Slot, lv_has ls 5 [(0, .ref (h 0)), (1, .int what), (2, .int hanging), (3, .int (nI j13))] → W p l e (headSpec wsX2_hangs ({ frames := 4, cells := 0, slots := 0, locals := 94 })).room s m ([.ref (h 0), .int what] : List Value).toArray below meth c H locs 0 0 (MQ below (va_Qi (fun r (_ : Unit) => r = s_X2_hangs n hd fi un on what) (fun _ _ => True) (fun q => s.heap.size ≤ q)) ([.ref (h 0), .int what] : List Value).toArray s 0 0 (fun q => s.heap.size ≤ q)) (F0 m 13 ls []) := by
      intro z_2
      induction z_2 with
      | zero =>
        intro j13 hj13 hanging he13   H locs hP hS ls hl
        obtain rfl : 8 = j13 := by omega
        refine lv_iload_n hx hb dX2_hangs_13 rfl (lv_at hl 3 rfl) ?_
        refine lv_bipush (v := 8) hx hb dX2_hangs_14 (by decide) ?_
        refine lv_icmp_ge (tgt := 69) hx hb dX2_hangs_16 (by decide) (fun _ => ?_) (fun hh_4 => absurd (nI_le (a := 8) (b := 8) (by omega) (by omega)) hh_4)
        refine lv_iload_n hx hb dX2_hangs_69 rfl (lv_at hl 2 rfl) ?_
        exact ro_iret hx hb hr hS hlocks (show s_X2_hangs n hd fi un on what = hanging from by (unfold s_X2_hangs; (try dsimp only); (try rw [if_neg c_4_1]); (try rw [← he13]); (try dsimp only); first | done | rfl)).symm dX2_hangs_70
      | succ z_2 ih13 =>
        intro j13 hj13 hanging he13   H locs hP hS ls hl
        refine lv_iload_n hx hb dX2_hangs_13 rfl (lv_at hl 3 rfl) ?_
        refine lv_bipush (v := 8) hx hb dX2_hangs_14 (by decide) ?_
        refine lv_icmp_ge (tgt := 69) hx hb dX2_hangs_16 (by decide) (fun hh_6 => absurd hh_6 (nI_ge (a := j13) (b := 8) (by omega) (by omega))) (fun _ => ?_)
        refine lv_iload_n hx hb dX2_hangs_19 rfl (lv_at hl 1 rfl) ?_
        refine lv_if_ne (tgt := 38) hx hb dX2_hangs_20 (by decide) (fun c_20_7 => ?_) (fun c_20_7 => ?_)
        · refine lv_aload_n hx hb dX2_hangs_38 rfl (lv_at hl 0 rfl) ?_
          refine va_get (D := D) (ci := 2) (v := .ref (h 3)) (C := RX2) (T := TX2) (N := 9) hx hb hts hinX2 hown hK hP 0 rfl rfl 1 (by decide) (hts (.fieldLink RX2 19 "HoldUnless" "book" "LHoldUnless$RuleBook;") (by decide +kernel)) (fun _ h9 => h9) rfl dX2_hangs_39 ?_
          refine lv_iload_n hx hb dX2_hangs_42 rfl (lv_at hl 3 rfl) ?_
          refine lv_aload_n hx hb dX2_hangs_43 rfl (lv_at hl 0 rfl) ?_
          refine va_get (D := D) (ci := 2) (v := .int on) (C := RX2) (T := TX2) (N := 9) hx hb hts hinX2 hown hK hP 0 rfl rfl 3 (by decide) (hts (.fieldLink RX2 51 "HoldUnless" "on" "I") (by decide +kernel)) (fun _ h9 => h9) rfl dX2_hangs_44 ?_
          have hPc := hP.sub (ws' := (wB (h 3) (h 4) (h 5) (h 6) (cA 4) (cA 5) (cA 6) (nI n) may hd fi un)) [3, 4, 5, 6] rfl
          have hDc := hD.sub (ws' := (wB (h 3) (h 4) (h 5) (h 6) (cA 4) (cA 5) (cA 6) (nI n) may hd fi un)) [3, 4, 5, 6] (by decide) rfl
          have hKc := hK.sub (tys' := (tB (h 3) (h 4) (h 5) (h 6) (cA 4) (cA 5) (cA 6))) [1, 2, 3] rfl
          refine ro_i (D := D) (va_runVN (As := [.int (nI j13), .int on]) (rest := []) ⟨hx, hb, hml, hown, hts⟩ (c_X0_isTangled l D (h 3) (h 4) (h 5) (h 6) (cA 4) (cA 5) (cA 6) n may hd fi un (nI j13) on (by first | assumption | omega) _) ⟨(va_cnB 2 hts gX2_hangs_X0_isTangled_n115 rfl rfl rfl (hN.nw 14 rfl) (hts (.initialized RX0) (by decide +kernel)) (by decide +kernel) ⟨Nat.le_of_ble_eq_true rfl, Nat.le_of_ble_eq_true rfl⟩), hts (.instanceMethod yX0_isTangled) (by decide +kernel), hts (.selects RX0 yX0_isTangled yX0_isTangled) (by decide +kernel)⟩ ⟨cPre.blind, va_recv hKc hPc (ci := 0) (q0 := 0) rfl rfl, cPre.mk hPc hKc hDc hN⟩ rfl rfl hl.1 rfl (lv_room (Nat.le_of_ble_eq_true rfl)) dX2_hangs_47 ⟨Nat.zero_le _, Nat.zero_le _⟩) hS hA (fun H locs hkp0 hS => ?_)
          replace hP := hkp0 _ hP
          refine lv_istore (lv' := [(4, .int (s_X0_isTangled n hd fi un (nI j13) on)), (0, .ref (h 0)), (1, .int what), (2, .int hanging), (3, .int (nI j13))]) hx hb dX2_hangs_50 hl (by decide) rfl (fun ls hl => ?_)
          refine lv_iload hx hb dX2_hangs_52 (lv_at hl 0 rfl) ?_
          refine lv_if_eq (tgt := 63) hx hb dX2_hangs_54 (by decide) (fun c_54_8 => ?_) (fun c_54_8 => ?_)
          · refine lv_iinc (v := nI (j13 + 1)) (lv' := [(3, .int (nI (j13 + 1))), (4, .int (s_X0_isTangled n hd fi un (nI j13) on)), (0, .ref (h 0)), (1, .int what), (2, .int hanging)]) hx hb dX2_hangs_63 hl (k := 4) rfl (inc_nI j13) (by decide) rfl (fun ls hl => ?_)
            refine lv_goto (tgt := 13) hx hb dX2_hangs_66 (by decide) ?_
            exact ih13 (j13 + 1) (by omega) hanging (itr_step he13 (by (unfold f_X2_hangs_13; (try dsimp only); (try rw [if_neg c_20_7]); (try rw [if_pos c_54_8]); first | done | rfl)))   _ _ hP hS _ (lv_sub hl [2, 3, 4, 0] rfl)
          · refine lv_iload_n hx hb dX2_hangs_57 rfl (lv_at hl 3 rfl) ?_
            refine lv_iconst (v := 1) hx hb dX2_hangs_58 (by decide) ?_
            refine lv_iload_n hx hb dX2_hangs_59 rfl (lv_at hl 4 rfl) ?_
            refine lv_ishl hx hb dX2_hangs_60 ?_
            refine lv_ior hx hb dX2_hangs_61 ?_
            refine lv_istore_n (lv' := [(2, .int (hanging ||| (1 <<< ((nI j13) &&& 31)))), (4, .int (s_X0_isTangled n hd fi un (nI j13) on)), (0, .ref (h 0)), (1, .int what), (3, .int (nI j13))]) hx hb dX2_hangs_62 rfl hl (by decide) rfl (fun ls hl => ?_)
            refine lv_iinc (v := nI (j13 + 1)) (lv' := [(3, .int (nI (j13 + 1))), (2, .int (hanging ||| (1 <<< ((nI j13) &&& 31)))), (4, .int (s_X0_isTangled n hd fi un (nI j13) on)), (0, .ref (h 0)), (1, .int what)]) hx hb dX2_hangs_63 hl (k := 4) rfl (inc_nI j13) (by decide) rfl (fun ls hl => ?_)
            refine lv_goto (tgt := 13) hx hb dX2_hangs_66 (by decide) ?_
            exact ih13 (j13 + 1) (by omega) (hanging ||| (1 <<< ((nI j13) &&& 31))) (itr_step he13 (by (unfold f_X2_hangs_13; (try dsimp only); (try rw [if_neg c_20_7]); (try rw [if_neg c_54_8]); first | done | rfl)))   _ _ hP hS _ (lv_sub hl [3, 4, 1, 0] rfl)
        · refine lv_aload_n hx hb dX2_hangs_23 rfl (lv_at hl 0 rfl) ?_
          refine va_get (D := D) (ci := 2) (v := .ref (h 3)) (C := RX2) (T := TX2) (N := 9) hx hb hts hinX2 hown hK hP 0 rfl rfl 1 (by decide) (hts (.fieldLink RX2 19 "HoldUnless" "book" "LHoldUnless$RuleBook;") (by decide +kernel)) (fun _ h9 => h9) rfl dX2_hangs_24 ?_
          refine lv_iload_n hx hb dX2_hangs_27 rfl (lv_at hl 3 rfl) ?_
          refine lv_aload_n hx hb dX2_hangs_28 rfl (lv_at hl 0 rfl) ?_
          refine va_get (D := D) (ci := 2) (v := .int on) (C := RX2) (T := TX2) (N := 9) hx hb hts hinX2 hown hK hP 0 rfl rfl 3 (by decide) (hts (.fieldLink RX2 51 "HoldUnless" "on" "I") (by decide +kernel)) (fun _ h9 => h9) rfl dX2_hangs_29 ?_
          have hPc := hP.sub (ws' := (wB (h 3) (h 4) (h 5) (h 6) (cA 4) (cA 5) (cA 6) (nI n) may hd fi un)) [3, 4, 5, 6] rfl
          have hDc := hD.sub (ws' := (wB (h 3) (h 4) (h 5) (h 6) (cA 4) (cA 5) (cA 6) (nI n) may hd fi un)) [3, 4, 5, 6] (by decide) rfl
          have hKc := hK.sub (tys' := (tB (h 3) (h 4) (h 5) (h 6) (cA 4) (cA 5) (cA 6))) [1, 2, 3] rfl
          refine ro_i (D := D) (va_runVN (As := [.int (nI j13), .int on]) (rest := []) ⟨hx, hb, hml, hown, hts⟩ (c_X0_hangsByIf l D (h 3) (h 4) (h 5) (h 6) (cA 4) (cA 5) (cA 6) n may hd fi un (nI j13) on (by first | assumption | omega) _) ⟨(va_cnB 2 hts gX2_hangs_X0_hangsByIf_n111 rfl rfl rfl (hN.nw 13 rfl) (hts (.initialized RX0) (by decide +kernel)) (by decide +kernel) ⟨Nat.le_of_ble_eq_true rfl, Nat.le_of_ble_eq_true rfl⟩), hts (.instanceMethod yX0_hangsByIf) (by decide +kernel), hts (.selects RX0 yX0_hangsByIf yX0_hangsByIf) (by decide +kernel)⟩ ⟨cPre.blind, va_recv hKc hPc (ci := 0) (q0 := 0) rfl rfl, cPre.mk hPc hKc hDc hN⟩ rfl rfl hl.1 rfl (lv_room (Nat.le_of_ble_eq_true rfl)) dX2_hangs_32 ⟨Nat.zero_le _, Nat.zero_le _⟩) hS hA (fun H locs hkp0 hS => ?_)
          replace hP := hkp0 _ hP
          refine lv_goto (tgt := 50) hx hb dX2_hangs_35 (by decide) ?_
          refine lv_istore (lv' := [(4, .int (s_X0_hangsByIf n hd fi (nI j13) on)), (0, .ref (h 0)), (1, .int what), (2, .int hanging), (3, .int (nI j13))]) hx hb dX2_hangs_50 hl (by decide) rfl (fun ls hl => ?_)
          refine lv_iload hx hb dX2_hangs_52 (lv_at hl 0 rfl) ?_
          refine lv_if_eq (tgt := 63) hx hb dX2_hangs_54 (by decide) (fun c_54_9 => ?_) (fun c_54_9 => ?_)
          · refine lv_iinc (v := nI (j13 + 1)) (lv' := [(3, .int (nI (j13 + 1))), (4, .int (s_X0_hangsByIf n hd fi (nI j13) on)), (0, .ref (h 0)), (1, .int what), (2, .int hanging)]) hx hb dX2_hangs_63 hl (k := 4) rfl (inc_nI j13) (by decide) rfl (fun ls hl => ?_)
            refine lv_goto (tgt := 13) hx hb dX2_hangs_66 (by decide) ?_
            exact ih13 (j13 + 1) (by omega) hanging (itr_step he13 (by (unfold f_X2_hangs_13; (try dsimp only); (try rw [if_pos c_20_7]); (try rw [if_pos c_54_9]); first | done | rfl)))   _ _ hP hS _ (lv_sub hl [2, 3, 4, 0] rfl)
          · refine lv_iload_n hx hb dX2_hangs_57 rfl (lv_at hl 3 rfl) ?_
            refine lv_iconst (v := 1) hx hb dX2_hangs_58 (by decide) ?_
            refine lv_iload_n hx hb dX2_hangs_59 rfl (lv_at hl 4 rfl) ?_
            refine lv_ishl hx hb dX2_hangs_60 ?_
            refine lv_ior hx hb dX2_hangs_61 ?_
            refine lv_istore_n (lv' := [(2, .int (hanging ||| (1 <<< ((nI j13) &&& 31)))), (4, .int (s_X0_hangsByIf n hd fi (nI j13) on)), (0, .ref (h 0)), (1, .int what), (3, .int (nI j13))]) hx hb dX2_hangs_62 rfl hl (by decide) rfl (fun ls hl => ?_)
            refine lv_iinc (v := nI (j13 + 1)) (lv' := [(3, .int (nI (j13 + 1))), (2, .int (hanging ||| (1 <<< ((nI j13) &&& 31)))), (4, .int (s_X0_hangsByIf n hd fi (nI j13) on)), (0, .ref (h 0)), (1, .int what)]) hx hb dX2_hangs_63 hl (k := 4) rfl (inc_nI j13) (by decide) rfl (fun ls hl => ?_)
            refine lv_goto (tgt := 13) hx hb dX2_hangs_66 (by decide) ?_
            exact ih13 (j13 + 1) (by omega) (hanging ||| (1 <<< ((nI j13) &&& 31))) (itr_step he13 (by (unfold f_X2_hangs_13; (try dsimp only); (try rw [if_pos c_20_7]); (try rw [if_neg c_54_9]); first | done | rfl)))   _ _ hP hS _ (lv_sub hl [3, 4, 1, 0] rfl)
    exact lp13_2 8 0 (by omega) 0 (itr_zero _ _).symm   _ _ hP hS _ (lv_sub hl [2, 3, 1, 0] rfl)
  · refine lv_iconst (v := (-1)) hx hb dX2_hangs_7 (by decide) ?_
    exact ro_iret hx hb hr hS hlocks (show s_X2_hangs n hd fi un on what = (-1) from by (unfold s_X2_hangs; (try dsimp only); (try rw [if_pos c_4_1]); first | done | rfl)).symm dX2_hangs_8

def f_X2_givesUp_5 (n : Nat) (may : Int32) (hd : Nat → Int32) (fi : Nat → Int32) (un : Nat → Int32) (on : Int32) (asd : Int32) (j5 : Nat) (st : Int32) : Int32 := match st with | best => (if 3 < (s_J6_bitCount_0f7a4 (s_X0_brokenBy n hd fi un (nI j5) on)) then best else (if (s_X2_isBetter (s_X0_brokenBy n hd fi un (nI j5) on) best) = 0 then best else (if (s_X0_upholds n may hd fi un (nI j5) (on &&& ((s_X0_brokenBy n hd fi un (nI j5) on) ^^^ (-1))) asd) = 0 then best else (s_X0_brokenBy n hd fi un (nI j5) on))))
def s_X2_givesUp (n : Nat) (may : Int32) (hd : Nat → Int32) (fi : Nat → Int32) (un : Nat → Int32) (on : Int32) (asd : Int32) : Int32 := (match itr (f_X2_givesUp_5 n may hd fi un on asd) (-9) 256 with | best => best)
set_option maxHeartbeats 4000000 in
set_option maxRecDepth 100000 in
theorem c_X2_givesUp (l : Launch) (D : va_G) (h : Nat → Nat) (cA : Nat → ClassId) (n : Nat) (by_ : Nat → Int32) (ln : Int32) (pl : Int32) (tk : Int32) (tp : Int32) (may : Int32) (hd : Nat → Int32) (fi : Nat → Int32) (un : Nat → Int32) (sz2 : Int32) (may2 : Int32) (hd2 : Nat → Int32) (fi2 : Nat → Int32) (un2 : Nat → Int32) (on : Int32) (asd : Int32) (io : Nat → Int32) (ia : Nat → Int32) (kept : Int32) (tr : Int64) (hn : n ≤ 10) (sz : Nat) : Met l yX2_givesUp wsX2_givesUp ({ frames := 4, cells := 0, slots := 0, locals := 97 }) (va_Pc [.ref (h 0)] (cPre D (tX h cA) (wX h cA by_ ln pl tk tp (nI n) may hd fi un sz2 may2 hd2 fi2 un2 on asd io ia kept tr) sz)) (va_Qi (fun r (_ : Unit) => r = s_X2_givesUp n may hd fi un on asd) (fun _ _ => True) (fun q => sz ≤ q)) 0 0 (fun q => sz ≤ q) := by
  refine Met.ofW (cc := cX2_givesUp) (maxL := 5) (ret := (some .int)) (by decide) rfl ?_
  intro p e s m args below meth c s₁ B hml hv
  obtain ⟨rfl, hsz, hP, hK, hD, hN⟩ := hv
  have hx := B.exec
  have hb := B.bytes
  have hr := B.returns
  have hts := atoms_spec (ws := wsX2_givesUp) B.pre
  have hown : s.vm.findClass RX2 = some m.cls := findClass_of_methodNamed B.named
  have hlocks := B.notSynchronized
  have hinX2 : ∀ w ∈ wsX20, w ∈ wsX2_givesUp := fun w h => List.mem_cons_of_mem _ (List.mem_append_left _ (List.mem_append_right _ h))
  subst hsz
  obtain ⟨A, hAe⟩ : ∃ A : Nat → Prop, A = (fun q : Nat => s.heap.size ≤ q) := ⟨_, rfl⟩
  have hA : ∀ q : Nat, s.heap.size ≤ q → A q := fun q h => by rw [hAe]; exact h
  have hS : va_S A s.heap s.heap [] := va_S.rf
  subst hAe
  have hl := lv_entry ([.ref (h 0)]) (n := 5) (Nat.le_of_ble_eq_true rfl)
  rw [lg_entry_eq]
  generalize (lg_sl ([.ref (h 0)]) ++ List.replicate (5 - (lg_sl ([.ref (h 0)])).length) Slot.unset).toArray = ls at hl ⊢
  replace hl : lv_has ls 5 [(0, .ref (h 0))] := hl
  have hKe := hK.sub (tys' := []) [] rfl
  refine lv_bipush (v := (-9)) hx hb dX2_givesUp_0 (by decide) ?_
  refine lv_istore_n (lv' := [(1, .int (-9)), (0, .ref (h 0))]) hx hb dX2_givesUp_2 rfl hl (by decide) rfl (fun ls hl => ?_)
  refine lv_iconst (v := 0) hx hb dX2_givesUp_3 (by decide) ?_
  refine lv_istore_n (lv' := [(2, .int 0), (1, .int (-9)), (0, .ref (h 0))]) hx hb dX2_givesUp_4 rfl hl (by decide) rfl (fun ls hl => ?_)
  have lp5_1 : ∀ (z_1 j5 : Nat), j5 + z_1 = 256 → ∀ (best : Int32), best = itr (f_X2_givesUp_5 n may hd fi un on asd) (-9) j5 → ∀  (H : Heap) (locs : List Loc), va_P D vwCl (wX h cA by_ ln pl tk tp (nI n) may hd fi un sz2 may2 hd2 fi2 un2 on asd io ia kept tr) H → va_S (fun q : Nat => s.heap.size ≤ q) s.heap H locs → ∀ ls : Array Slot, lv_has ls 5 [(0, .ref (h 0)), (1, .int best), (2, .int (nI j5))] → W p l e (headSpec wsX2_givesUp ({ frames := 4, cells := 0, slots := 0, locals := 97 })).room s m ([.ref (h 0)] : List Value).toArray below meth c H locs 0 0 (MQ below (va_Qi (fun r (_ : Unit) => r = s_X2_givesUp n may hd fi un on asd) (fun _ _ => True) (fun q => s.heap.size ≤ q)) ([.ref (h 0)] : List Value).toArray s 0 0 (fun q => s.heap.size ≤ q)) (F0 m 5 ls []) := by
    intro z_1
    induction z_1 with
    | zero =>
      intro j5 hj5 best he5   H locs hP hS ls hl
      obtain rfl : 256 = j5 := by omega
      refine lv_iload_n hx hb dX2_givesUp_5 rfl (lv_at hl 2 rfl) ?_
      refine lv_sipush (v := 255) hx hb dX2_givesUp_6 (by decide) ?_
      refine lv_icmp_gt (tgt := 84) hx hb dX2_givesUp_9 (by decide) (fun _ => ?_) (fun hh_3 => absurd (nI_lt (a := 255) (b := 256) (by omega) (by omega)) hh_3)
      refine lv_iload_n hx hb dX2_givesUp_84 rfl (lv_at hl 1 rfl) ?_
      exact ro_iret hx hb hr hS hlocks (show s_X2_givesUp n may hd fi un on asd = best from by (unfold s_X2_givesUp; (try dsimp only); (try rw [← he5]); (try dsimp only); first | done | rfl)).symm dX2_givesUp_85
    | succ z_1 ih5 =>
      intro j5 hj5 best he5   H locs hP hS ls hl
      refine lv_iload_n hx hb dX2_givesUp_5 rfl (lv_at hl 2 rfl) ?_
      refine lv_sipush (v := 255) hx hb dX2_givesUp_6 (by decide) ?_
      refine lv_icmp_gt (tgt := 84) hx hb dX2_givesUp_9 (by decide) (fun hh_5 => absurd hh_5 (nI_nlt (a := 255) (b := j5) (by omega) (by omega))) (fun _ => ?_)
      refine lv_aload_n hx hb dX2_givesUp_12 rfl (lv_at hl 0 rfl) ?_
      refine va_get (D := D) (ci := 2) (v := .ref (h 3)) (C := RX2) (T := TX2) (N := 9) hx hb hts hinX2 hown hK hP 0 rfl rfl 1 (by decide) (hts (.fieldLink RX2 19 "HoldUnless" "book" "LHoldUnless$RuleBook;") (by decide +kernel)) (fun _ h9 => h9) rfl dX2_givesUp_13 ?_
      refine lv_iload_n hx hb dX2_givesUp_16 rfl (lv_at hl 2 rfl) ?_
      refine lv_aload_n hx hb dX2_givesUp_17 rfl (lv_at hl 0 rfl) ?_
      refine va_get (D := D) (ci := 2) (v := .int on) (C := RX2) (T := TX2) (N := 9) hx hb hts hinX2 hown hK hP 0 rfl rfl 3 (by decide) (hts (.fieldLink RX2 51 "HoldUnless" "on" "I") (by decide +kernel)) (fun _ h9 => h9) rfl dX2_givesUp_18 ?_
      have hPc := hP.sub (ws' := (wB (h 3) (h 4) (h 5) (h 6) (cA 4) (cA 5) (cA 6) (nI n) may hd fi un)) [3, 4, 5, 6] rfl
      have hDc := hD.sub (ws' := (wB (h 3) (h 4) (h 5) (h 6) (cA 4) (cA 5) (cA 6) (nI n) may hd fi un)) [3, 4, 5, 6] (by decide) rfl
      have hKc := hK.sub (tys' := (tB (h 3) (h 4) (h 5) (h 6) (cA 4) (cA 5) (cA 6))) [1, 2, 3] rfl
      refine ro_i (D := D) (va_runVN (As := [.int (nI j5), .int on]) (rest := []) ⟨hx, hb, hml, hown, hts⟩ (c_X0_brokenBy l D (h 3) (h 4) (h 5) (h 6) (cA 4) (cA 5) (cA 6) n may hd fi un (nI j5) on (by first | assumption | omega) _) ⟨(va_cnB 2 hts gX2_givesUp_X0_brokenBy_n126 rfl rfl rfl (hN.nw 15 rfl) (hts (.initialized RX0) (by decide +kernel)) (by decide +kernel) ⟨Nat.le_of_ble_eq_true rfl, Nat.le_of_ble_eq_true rfl⟩), hts (.instanceMethod yX0_brokenBy) (by decide +kernel), hts (.selects RX0 yX0_brokenBy yX0_brokenBy) (by decide +kernel)⟩ ⟨cPre.blind, va_recv hKc hPc (ci := 0) (q0 := 0) rfl rfl, cPre.mk hPc hKc hDc hN⟩ rfl rfl hl.1 rfl (lv_room (Nat.le_of_ble_eq_true rfl)) dX2_givesUp_21 ⟨Nat.zero_le _, Nat.zero_le _⟩) hS hA (fun H locs hkp0 hS => ?_)
      replace hP := hkp0 _ hP
      refine lv_istore_n (lv' := [(3, .int (s_X0_brokenBy n hd fi un (nI j5) on)), (0, .ref (h 0)), (1, .int best), (2, .int (nI j5))]) hx hb dX2_givesUp_24 rfl hl (by decide) rfl (fun ls hl => ?_)
      refine lv_iload_n hx hb dX2_givesUp_25 rfl (lv_at hl 0 rfl) ?_
      refine ro_i (D := D) (va_runS (As := [.int (s_X0_brokenBy n hd fi un (nI j5) on)]) (rest := []) ⟨hx, hb, hml, hown, hts⟩ (c_J6_bitCount_0f7a4 l D (s_X0_brokenBy n hd fi un (nI j5) on)  _) (va_cwS 1 hts gX2_givesUp_J6_bitCount_0f7a4 rfl rfl rfl (by decide +kernel) ⟨Nat.le_of_ble_eq_true rfl, Nat.le_of_ble_eq_true rfl⟩) ⟨cPre.blind, cPre.mk vP0 hKe vD0 hN⟩ rfl rfl hl.1 rfl (lv_room (Nat.le_of_ble_eq_true rfl)) dX2_givesUp_26 ⟨Nat.zero_le _, Nat.zero_le _⟩) hS hA (fun H locs hkp0 hS => ?_)
      replace hP := hkp0 _ hP
      refine lv_iconst (v := 3) hx hb dX2_givesUp_29 (by decide) ?_
      refine lv_icmp_gt (tgt := 45) hx hb dX2_givesUp_30 (by decide) (fun c_30_6 => ?_) (fun c_30_6 => ?_)
      · refine lv_iconst (v := 0) hx hb dX2_givesUp_45 (by decide) ?_
        refine lv_istore (lv' := [(4, .int 0), (3, .int (s_X0_brokenBy n hd fi un (nI j5) on)), (0, .ref (h 0)), (1, .int best), (2, .int (nI j5))]) hx hb dX2_givesUp_46 hl (by decide) rfl (fun ls hl => ?_)
        refine lv_iload hx hb dX2_givesUp_48 (lv_at hl 0 rfl) ?_
        refine lv_if_eq (tgt := 78) hx hb dX2_givesUp_50 (by decide) (fun _ => ?_) (fun hh_8 => absurd (by decide) hh_8)
        refine lv_iinc (v := nI (j5 + 1)) (lv' := [(2, .int (nI (j5 + 1))), (4, .int 0), (3, .int (s_X0_brokenBy n hd fi un (nI j5) on)), (0, .ref (h 0)), (1, .int best)]) hx hb dX2_givesUp_78 hl (k := 4) rfl (inc_nI j5) (by decide) rfl (fun ls hl => ?_)
        refine lv_goto (tgt := 5) hx hb dX2_givesUp_81 (by decide) ?_
        exact ih5 (j5 + 1) (by omega) best (itr_step he5 (by (unfold f_X2_givesUp_5; (try dsimp only); (try rw [if_pos c_30_6]); first | done | rfl)))   _ _ hP hS _ (lv_sub hl [3, 4, 0] rfl)
      · refine lv_iload_n hx hb dX2_givesUp_33 rfl (lv_at hl 0 rfl) ?_
        refine lv_iload_n hx hb dX2_givesUp_34 rfl (lv_at hl 2 rfl) ?_
        refine ro_i (D := D) (va_runS (As := [.int (s_X0_brokenBy n hd fi un (nI j5) on), .int best]) (rest := []) ⟨hx, hb, hml, hown, hts⟩ (c_X2_isBetter l D (s_X0_brokenBy n hd fi un (nI j5) on) best  _) (va_cwS 2 hts gX2_givesUp_X2_isBetter rfl rfl rfl (by decide +kernel) ⟨Nat.le_of_ble_eq_true rfl, Nat.le_of_ble_eq_true rfl⟩) ⟨cPre.blind, cPre.mk vP0 hKe vD0 hN⟩ rfl rfl hl.1 rfl (lv_room (Nat.le_of_ble_eq_true rfl)) dX2_givesUp_35 ⟨Nat.zero_le _, Nat.zero_le _⟩) hS hA (fun H locs hkp0 hS => ?_)
        replace hP := hkp0 _ hP
        refine lv_if_eq (tgt := 45) hx hb dX2_givesUp_38 (by decide) (fun c_38_9 => ?_) (fun c_38_9 => ?_)
        · refine lv_iconst (v := 0) hx hb dX2_givesUp_45 (by decide) ?_
          refine lv_istore (lv' := [(4, .int 0), (3, .int (s_X0_brokenBy n hd fi un (nI j5) on)), (0, .ref (h 0)), (1, .int best), (2, .int (nI j5))]) hx hb dX2_givesUp_46 hl (by decide) rfl (fun ls hl => ?_)
          refine lv_iload hx hb dX2_givesUp_48 (lv_at hl 0 rfl) ?_
          refine lv_if_eq (tgt := 78) hx hb dX2_givesUp_50 (by decide) (fun _ => ?_) (fun hh_11 => absurd (by decide) hh_11)
          refine lv_iinc (v := nI (j5 + 1)) (lv' := [(2, .int (nI (j5 + 1))), (4, .int 0), (3, .int (s_X0_brokenBy n hd fi un (nI j5) on)), (0, .ref (h 0)), (1, .int best)]) hx hb dX2_givesUp_78 hl (k := 4) rfl (inc_nI j5) (by decide) rfl (fun ls hl => ?_)
          refine lv_goto (tgt := 5) hx hb dX2_givesUp_81 (by decide) ?_
          exact ih5 (j5 + 1) (by omega) best (itr_step he5 (by (unfold f_X2_givesUp_5; (try dsimp only); (try rw [if_neg c_30_6]); (try rw [if_pos c_38_9]); first | done | rfl)))   _ _ hP hS _ (lv_sub hl [3, 4, 0] rfl)
        · refine lv_iconst (v := 1) hx hb dX2_givesUp_41 (by decide) ?_
          refine lv_goto (tgt := 46) hx hb dX2_givesUp_42 (by decide) ?_
          refine lv_istore (lv' := [(4, .int 1), (3, .int (s_X0_brokenBy n hd fi un (nI j5) on)), (0, .ref (h 0)), (1, .int best), (2, .int (nI j5))]) hx hb dX2_givesUp_46 hl (by decide) rfl (fun ls hl => ?_)
          refine lv_iload hx hb dX2_givesUp_48 (lv_at hl 0 rfl) ?_
          refine lv_if_eq (tgt := 78) hx hb dX2_givesUp_50 (by decide) (fun hh_13 => absurd hh_13 (by decide)) (fun _ => ?_)
          refine lv_aload_n hx hb dX2_givesUp_53 rfl (lv_at hl 2 rfl) ?_
          refine va_get (D := D) (ci := 2) (v := .ref (h 3)) (C := RX2) (T := TX2) (N := 9) hx hb hts hinX2 hown hK hP 0 rfl rfl 1 (by decide) (hts (.fieldLink RX2 19 "HoldUnless" "book" "LHoldUnless$RuleBook;") (by decide +kernel)) (fun _ h9 => h9) rfl dX2_givesUp_54 ?_
          refine lv_iload_n hx hb dX2_givesUp_57 rfl (lv_at hl 4 rfl) ?_
          refine lv_aload_n hx hb dX2_givesUp_58 rfl (lv_at hl 2 rfl) ?_
          refine va_get (D := D) (ci := 2) (v := .int on) (C := RX2) (T := TX2) (N := 9) hx hb hts hinX2 hown hK hP 0 rfl rfl 3 (by decide) (hts (.fieldLink RX2 51 "HoldUnless" "on" "I") (by decide +kernel)) (fun _ h9 => h9) rfl dX2_givesUp_59 ?_
          refine lv_iload_n hx hb dX2_givesUp_62 rfl (lv_at hl 1 rfl) ?_
          refine lv_iconst (v := (-1)) hx hb dX2_givesUp_63 (by decide) ?_
          refine lv_ixor hx hb dX2_givesUp_64 ?_
          refine lv_iand hx hb dX2_givesUp_65 ?_
          refine lv_aload_n hx hb dX2_givesUp_66 rfl (lv_at hl 2 rfl) ?_
          refine va_get (D := D) (ci := 2) (v := .int asd) (C := RX2) (T := TX2) (N := 9) hx hb hts hinX2 hown hK hP 0 rfl rfl 4 (by decide) (hts (.fieldLink RX2 54 "HoldUnless" "assumed" "I") (by decide +kernel)) (fun _ h9 => h9) rfl dX2_givesUp_67 ?_
          have hPc := hP.sub (ws' := (wB (h 3) (h 4) (h 5) (h 6) (cA 4) (cA 5) (cA 6) (nI n) may hd fi un)) [3, 4, 5, 6] rfl
          have hDc := hD.sub (ws' := (wB (h 3) (h 4) (h 5) (h 6) (cA 4) (cA 5) (cA 6) (nI n) may hd fi un)) [3, 4, 5, 6] (by decide) rfl
          have hKc := hK.sub (tys' := (tB (h 3) (h 4) (h 5) (h 6) (cA 4) (cA 5) (cA 6))) [1, 2, 3] rfl
          refine ro_i (D := D) (va_runVN (As := [.int (nI j5), .int (on &&& ((s_X0_brokenBy n hd fi un (nI j5) on) ^^^ (-1))), .int asd]) (rest := []) ⟨hx, hb, hml, hown, hts⟩ (c_X0_upholds l D (h 3) (h 4) (h 5) (h 6) (cA 4) (cA 5) (cA 6) n may hd fi un (nI j5) (on &&& ((s_X0_brokenBy n hd fi un (nI j5) on) ^^^ (-1))) asd (by first | assumption | omega) _) ⟨(va_cnB 3 hts gX2_givesUp_X0_upholds_n87 rfl rfl rfl (hN.nw 8 rfl) (hts (.initialized RX0) (by decide +kernel)) (by decide +kernel) ⟨Nat.le_of_ble_eq_true rfl, Nat.le_of_ble_eq_true rfl⟩), hts (.instanceMethod yX0_upholds) (by decide +kernel), hts (.selects RX0 yX0_upholds yX0_upholds) (by decide +kernel)⟩ ⟨cPre.blind, va_recv hKc hPc (ci := 0) (q0 := 0) rfl rfl, cPre.mk hPc hKc hDc hN⟩ rfl rfl hl.1 rfl (lv_room (Nat.le_of_ble_eq_true rfl)) dX2_givesUp_70 ⟨Nat.zero_le _, Nat.zero_le _⟩) hS hA (fun H locs hkp0 hS => ?_)
          replace hP := hkp0 _ hP
          refine lv_if_eq (tgt := 78) hx hb dX2_givesUp_73 (by decide) (fun c_73_14 => ?_) (fun c_73_14 => ?_)
          · refine lv_iinc (v := nI (j5 + 1)) (lv' := [(2, .int (nI (j5 + 1))), (4, .int 1), (3, .int (s_X0_brokenBy n hd fi un (nI j5) on)), (0, .ref (h 0)), (1, .int best)]) hx hb dX2_givesUp_78 hl (k := 4) rfl (inc_nI j5) (by decide) rfl (fun ls hl => ?_)
            refine lv_goto (tgt := 5) hx hb dX2_givesUp_81 (by decide) ?_
            exact ih5 (j5 + 1) (by omega) best (itr_step he5 (by (unfold f_X2_givesUp_5; (try dsimp only); (try rw [if_neg c_30_6]); (try rw [if_neg c_38_9]); (try rw [if_pos c_73_14]); first | done | rfl)))   _ _ hP hS _ (lv_sub hl [3, 4, 0] rfl)
          · refine lv_iload_n hx hb dX2_givesUp_76 rfl (lv_at hl 1 rfl) ?_
            refine lv_istore_n (lv' := [(1, .int (s_X0_brokenBy n hd fi un (nI j5) on)), (4, .int 1), (3, .int (s_X0_brokenBy n hd fi un (nI j5) on)), (0, .ref (h 0)), (2, .int (nI j5))]) hx hb dX2_givesUp_77 rfl hl (by decide) rfl (fun ls hl => ?_)
            refine lv_iinc (v := nI (j5 + 1)) (lv' := [(2, .int (nI (j5 + 1))), (1, .int (s_X0_brokenBy n hd fi un (nI j5) on)), (4, .int 1), (3, .int (s_X0_brokenBy n hd fi un (nI j5) on)), (0, .ref (h 0))]) hx hb dX2_givesUp_78 hl (k := 4) rfl (inc_nI j5) (by decide) rfl (fun ls hl => ?_)
            refine lv_goto (tgt := 5) hx hb dX2_givesUp_81 (by decide) ?_
            exact ih5 (j5 + 1) (by omega) (s_X0_brokenBy n hd fi un (nI j5) on) (itr_step he5 (by (unfold f_X2_givesUp_5; (try dsimp only); (try rw [if_neg c_30_6]); (try rw [if_neg c_38_9]); (try rw [if_neg c_73_14]); first | done | rfl)))   _ _ hP hS _ (lv_sub hl [4, 1, 0] rfl)
  exact lp5_1 256 0 (by omega) (-9) (itr_zero _ _).symm   _ _ hP hS _ (lv_sub hl [2, 1, 0] rfl)

def f_X2_sameSetsWith_2 (n : Nat) (may : Int32) (hd : Nat → Int32) (fi : Nat → Int32) (un : Nat → Int32) (on : Int32) (asd : Int32) (oon : Int32) (oas : Int32) (j2 : Nat) (st : Unit) : Int32 ⊕ (Unit) := (if (s_X0_upholds n may hd fi un (nI j2) on asd) = (s_X0_upholds n may hd fi un (nI j2) oon oas) then (.inr ()) else (.inl 0))
def s_X2_sameSetsWith (n : Nat) (may : Int32) (hd : Nat → Int32) (fi : Nat → Int32) (un : Nat → Int32) (on : Int32) (asd : Int32) (oon : Int32) (oas : Int32) : Int32 := (onE (itE (f_X2_sameSetsWith_2 n may hd fi un on asd oon oas) () 256) (fun st => match st with | () => 1))
set_option maxHeartbeats 4000000 in
set_option maxRecDepth 100000 in
theorem c_X2_sameSetsWith (l : Launch) (D : va_G) (h : Nat → Nat) (cA : Nat → ClassId) (n : Nat) (by_ : Nat → Int32) (ln : Int32) (pl : Int32) (tk : Int32) (tp : Int32) (may : Int32) (hd : Nat → Int32) (fi : Nat → Int32) (un : Nat → Int32) (sz2 : Int32) (may2 : Int32) (hd2 : Nat → Int32) (fi2 : Nat → Int32) (un2 : Nat → Int32) (on : Int32) (asd : Int32) (io : Nat → Int32) (ia : Nat → Int32) (kept : Int32) (tr : Int64) (oon : Int32) (oas : Int32) (hn : n ≤ 10) (sz : Nat) : Met l yX2_sameSetsWith wsX2_sameSetsWith ({ frames := 4, cells := 0, slots := 0, locals := 97 }) (va_Pc [.ref (h 0), .int oon, .int oas] (cPre D (tX h cA) (wX h cA by_ ln pl tk tp (nI n) may hd fi un sz2 may2 hd2 fi2 un2 on asd io ia kept tr) sz)) (va_Qi (fun r (_ : Unit) => r = s_X2_sameSetsWith n may hd fi un on asd oon oas) (fun _ _ => True) (fun q => sz ≤ q)) 0 0 (fun q => sz ≤ q) := by
  refine Met.ofW (cc := cX2_sameSetsWith) (maxL := 4) (ret := (some .boolean)) (by decide) rfl ?_
  intro p e s m args below meth c s₁ B hml hv
  obtain ⟨rfl, hsz, hP, hK, hD, hN⟩ := hv
  have hx := B.exec
  have hb := B.bytes
  have hr := B.returns
  have hts := atoms_spec (ws := wsX2_sameSetsWith) B.pre
  have hown : s.vm.findClass RX2 = some m.cls := findClass_of_methodNamed B.named
  have hlocks := B.notSynchronized
  have hinX2 : ∀ w ∈ wsX20, w ∈ wsX2_sameSetsWith := fun w h => List.mem_cons_of_mem _ (List.mem_append_left _ (List.mem_append_right _ h))
  subst hsz
  obtain ⟨A, hAe⟩ : ∃ A : Nat → Prop, A = (fun q : Nat => s.heap.size ≤ q) := ⟨_, rfl⟩
  have hA : ∀ q : Nat, s.heap.size ≤ q → A q := fun q h => by rw [hAe]; exact h
  have hS : va_S A s.heap s.heap [] := va_S.rf
  subst hAe
  have hl := lv_entry ([.ref (h 0), .int oon, .int oas]) (n := 4) (Nat.le_of_ble_eq_true rfl)
  rw [lg_entry_eq]
  generalize (lg_sl ([.ref (h 0), .int oon, .int oas]) ++ List.replicate (4 - (lg_sl ([.ref (h 0), .int oon, .int oas])).length) Slot.unset).toArray = ls at hl ⊢
  replace hl : lv_has ls 4 [(0, .ref (h 0)), (1, .int oon), (2, .int oas)] := hl
  have hKe := hK.sub (tys' := []) [] rfl
  refine lv_iconst (v := 0) hx hb dX2_sameSetsWith_0 (by decide) ?_
  refine lv_istore_n (lv' := [(3, .int 0), (0, .ref (h 0)), (1, .int oon), (2, .int oas)]) hx hb dX2_sameSetsWith_1 rfl hl (by decide) rfl (fun ls hl => ?_)
  have lp2_1 : ∀ (z_1 j2 : Nat), j2 + z_1 = 256 → ∀ (_ : Unit), itE (f_X2_sameSetsWith_2 n may hd fi un on asd oon oas) () j2 = .inr () → ∀  (H : Heap) (locs : List Loc), va_P D vwCl (wX h cA by_ ln pl tk tp (nI n) may hd fi un sz2 may2 hd2 fi2 un2 on asd io ia kept tr) H → va_S (fun q : Nat => s.heap.size ≤ q) s.heap H locs → ∀ ls : Array Slot, lv_has ls 4 [(0, .ref (h 0)), (1, .int oon), (2, .int oas), (3, .int (nI j2))] → W p l e (headSpec wsX2_sameSetsWith ({ frames := 4, cells := 0, slots := 0, locals := 97 })).room s m ([.ref (h 0), .int oon, .int oas] : List Value).toArray below meth c H locs 0 0 (MQ below (va_Qi (fun r (_ : Unit) => r = s_X2_sameSetsWith n may hd fi un on asd oon oas) (fun _ _ => True) (fun q => s.heap.size ≤ q)) ([.ref (h 0), .int oon, .int oas] : List Value).toArray s 0 0 (fun q => s.heap.size ≤ q)) (F0 m 2 ls []) := by
    intro z_1
    induction z_1 with
    | zero =>
      intro j2 hj2 _ he2   H locs hP hS ls hl
      obtain rfl : 256 = j2 := by omega
      refine lv_iload_n hx hb dX2_sameSetsWith_2 rfl (lv_at hl 3 rfl) ?_
      refine lv_sipush (v := 255) hx hb dX2_sameSetsWith_3 (by decide) ?_
      refine lv_icmp_gt (tgt := 46) hx hb dX2_sameSetsWith_6 (by decide) (fun _ => ?_) (fun hh_3 => absurd (nI_lt (a := 255) (b := 256) (by omega) (by omega)) hh_3)
      refine lv_iconst (v := 1) hx hb dX2_sameSetsWith_46 (by decide) ?_
      exact ro_zret hx hb hr hS hlocks (show s_X2_sameSetsWith n may hd fi un on asd oon oas = 1 from by (unfold s_X2_sameSetsWith; (try dsimp only); (try rw [he2]); (try dsimp only [onE]); first | done | rfl)).symm (by decide +kernel) dX2_sameSetsWith_47
    | succ z_1 ih2 =>
      intro j2 hj2 _ he2   H locs hP hS ls hl
      refine lv_iload_n hx hb dX2_sameSetsWith_2 rfl (lv_at hl 3 rfl) ?_
      refine lv_sipush (v := 255) hx hb dX2_sameSetsWith_3 (by decide) ?_
      refine lv_icmp_gt (tgt := 46) hx hb dX2_sameSetsWith_6 (by decide) (fun hh_5 => absurd hh_5 (nI_nlt (a := 255) (b := j2) (by omega) (by omega))) (fun _ => ?_)
      refine lv_aload_n hx hb dX2_sameSetsWith_9 rfl (lv_at hl 0 rfl) ?_
      refine va_get (D := D) (ci := 2) (v := .ref (h 3)) (C := RX2) (T := TX2) (N := 9) hx hb hts hinX2 hown hK hP 0 rfl rfl 1 (by decide) (hts (.fieldLink RX2 19 "HoldUnless" "book" "LHoldUnless$RuleBook;") (by decide +kernel)) (fun _ h9 => h9) rfl dX2_sameSetsWith_10 ?_
      refine lv_iload_n hx hb dX2_sameSetsWith_13 rfl (lv_at hl 3 rfl) ?_
      refine lv_aload_n hx hb dX2_sameSetsWith_14 rfl (lv_at hl 0 rfl) ?_
      refine va_get (D := D) (ci := 2) (v := .int on) (C := RX2) (T := TX2) (N := 9) hx hb hts hinX2 hown hK hP 0 rfl rfl 3 (by decide) (hts (.fieldLink RX2 51 "HoldUnless" "on" "I") (by decide +kernel)) (fun _ h9 => h9) rfl dX2_sameSetsWith_15 ?_
      refine lv_aload_n hx hb dX2_sameSetsWith_18 rfl (lv_at hl 0 rfl) ?_
      refine va_get (D := D) (ci := 2) (v := .int asd) (C := RX2) (T := TX2) (N := 9) hx hb hts hinX2 hown hK hP 0 rfl rfl 4 (by decide) (hts (.fieldLink RX2 54 "HoldUnless" "assumed" "I") (by decide +kernel)) (fun _ h9 => h9) rfl dX2_sameSetsWith_19 ?_
      have hPc := hP.sub (ws' := (wB (h 3) (h 4) (h 5) (h 6) (cA 4) (cA 5) (cA 6) (nI n) may hd fi un)) [3, 4, 5, 6] rfl
      have hDc := hD.sub (ws' := (wB (h 3) (h 4) (h 5) (h 6) (cA 4) (cA 5) (cA 6) (nI n) may hd fi un)) [3, 4, 5, 6] (by decide) rfl
      have hKc := hK.sub (tys' := (tB (h 3) (h 4) (h 5) (h 6) (cA 4) (cA 5) (cA 6))) [1, 2, 3] rfl
      refine ro_i (D := D) (va_runVN (As := [.int (nI j2), .int on, .int asd]) (rest := []) ⟨hx, hb, hml, hown, hts⟩ (c_X0_upholds l D (h 3) (h 4) (h 5) (h 6) (cA 4) (cA 5) (cA 6) n may hd fi un (nI j2) on asd (by first | assumption | omega) _) ⟨(va_cnB 3 hts gX2_sameSetsWith_X0_upholds_n87 rfl rfl rfl (hN.nw 8 rfl) (hts (.initialized RX0) (by decide +kernel)) (by decide +kernel) ⟨Nat.le_of_ble_eq_true rfl, Nat.le_of_ble_eq_true rfl⟩), hts (.instanceMethod yX0_upholds) (by decide +kernel), hts (.selects RX0 yX0_upholds yX0_upholds) (by decide +kernel)⟩ ⟨cPre.blind, va_recv hKc hPc (ci := 0) (q0 := 0) rfl rfl, cPre.mk hPc hKc hDc hN⟩ rfl rfl hl.1 rfl (lv_room (Nat.le_of_ble_eq_true rfl)) dX2_sameSetsWith_22 ⟨Nat.zero_le _, Nat.zero_le _⟩) hS hA (fun H locs hkp0 hS => ?_)
      replace hP := hkp0 _ hP
      refine lv_aload_n hx hb dX2_sameSetsWith_25 rfl (lv_at hl 0 rfl) ?_
      refine va_get (D := D) (ci := 2) (v := .ref (h 3)) (C := RX2) (T := TX2) (N := 9) hx hb hts hinX2 hown hK hP 0 rfl rfl 1 (by decide) (hts (.fieldLink RX2 19 "HoldUnless" "book" "LHoldUnless$RuleBook;") (by decide +kernel)) (fun _ h9 => h9) rfl dX2_sameSetsWith_26 ?_
      refine lv_iload_n hx hb dX2_sameSetsWith_29 rfl (lv_at hl 3 rfl) ?_
      refine lv_iload_n hx hb dX2_sameSetsWith_30 rfl (lv_at hl 1 rfl) ?_
      refine lv_iload_n hx hb dX2_sameSetsWith_31 rfl (lv_at hl 2 rfl) ?_
      have hPc := hP.sub (ws' := (wB (h 3) (h 4) (h 5) (h 6) (cA 4) (cA 5) (cA 6) (nI n) may hd fi un)) [3, 4, 5, 6] rfl
      have hDc := hD.sub (ws' := (wB (h 3) (h 4) (h 5) (h 6) (cA 4) (cA 5) (cA 6) (nI n) may hd fi un)) [3, 4, 5, 6] (by decide) rfl
      have hKc := hK.sub (tys' := (tB (h 3) (h 4) (h 5) (h 6) (cA 4) (cA 5) (cA 6))) [1, 2, 3] rfl
      refine ro_i (D := D) (va_runVN (As := [.int (nI j2), .int oon, .int oas]) (rest := [.int (s_X0_upholds n may hd fi un (nI j2) on asd)]) ⟨hx, hb, hml, hown, hts⟩ (c_X0_upholds l D (h 3) (h 4) (h 5) (h 6) (cA 4) (cA 5) (cA 6) n may hd fi un (nI j2) oon oas (by first | assumption | omega) _) ⟨(va_cnB 3 hts gX2_sameSetsWith_X0_upholds_n87 rfl rfl rfl (hN.nw 8 rfl) (hts (.initialized RX0) (by decide +kernel)) (by decide +kernel) ⟨Nat.le_of_ble_eq_true rfl, Nat.le_of_ble_eq_true rfl⟩), hts (.instanceMethod yX0_upholds) (by decide +kernel), hts (.selects RX0 yX0_upholds yX0_upholds) (by decide +kernel)⟩ ⟨cPre.blind, va_recv hKc hPc (ci := 0) (q0 := 0) rfl rfl, cPre.mk hPc hKc hDc hN⟩ rfl rfl hl.1 rfl (lv_room (Nat.le_of_ble_eq_true rfl)) dX2_sameSetsWith_32 ⟨Nat.zero_le _, Nat.zero_le _⟩) hS hA (fun H locs hkp0 hS => ?_)
      replace hP := hkp0 _ hP
      refine lv_icmp_eq (tgt := 40) hx hb dX2_sameSetsWith_35 (by decide) (fun c_35_6 => ?_) (fun c_35_6 => ?_)
      · refine lv_iinc (v := nI (j2 + 1)) (lv' := [(3, .int (nI (j2 + 1))), (0, .ref (h 0)), (1, .int oon), (2, .int oas)]) hx hb dX2_sameSetsWith_40 hl (k := 3) rfl (inc_nI j2) (by decide) rfl (fun ls hl => ?_)
        refine lv_goto (tgt := 2) hx hb dX2_sameSetsWith_43 (by decide) ?_
        exact ih2 (j2 + 1) (by omega) () (itE_succ he2 (by (unfold f_X2_sameSetsWith_2; (try dsimp only); (try rw [if_pos c_35_6]); first | done | rfl)))   _ _ hP hS _ (lv_sub hl [1, 2, 3, 0] rfl)
      · refine lv_iconst (v := 0) hx hb dX2_sameSetsWith_38 (by decide) ?_
        have hs_7 : itE (f_X2_sameSetsWith_2 n may hd fi un on asd oon oas) () (j2 + 1) = (.inl 0) := itE_succ he2 (by (unfold f_X2_sameSetsWith_2; (try dsimp only); (try rw [if_neg c_35_6]); first | done | rfl))
        have hn_8 := itE_stop hs_7 256 (by omega)
        exact ro_zret hx hb hr hS hlocks (show s_X2_sameSetsWith n may hd fi un on asd oon oas = 0 from by (unfold s_X2_sameSetsWith; (try dsimp only); (try rw [hn_8]); (try dsimp only [onE]); first | done | rfl)).symm (by decide +kernel) dX2_sameSetsWith_39
  exact lp2_1 256 0 (by omega) () (itE_zero _ _)   _ _ hP hS _ (lv_sub hl [1, 2, 3, 0] rfl)

def s_X2_idle (n : Nat) (may : Int32) (hd : Nat → Int32) (fi : Nat → Int32) (un : Nat → Int32) (on : Int32) (asd : Int32) (k : Int32) : Int32 := (if (s_X2_isRule n k) = 0 then (-1) else (if (s_X2_bitOf on k) = 0 then (-2) else (if (s_X2_sameSetsWith n may hd fi un on asd (s_X2_withBit on k 0) asd) = 0 then 0 else 1)))
set_option maxHeartbeats 4000000 in
set_option maxRecDepth 100000 in
theorem c_X2_idle (l : Launch) (D : va_G) (h : Nat → Nat) (cA : Nat → ClassId) (n : Nat) (by_ : Nat → Int32) (ln : Int32) (pl : Int32) (tk : Int32) (tp : Int32) (may : Int32) (hd : Nat → Int32) (fi : Nat → Int32) (un : Nat → Int32) (sz2 : Int32) (may2 : Int32) (hd2 : Nat → Int32) (fi2 : Nat → Int32) (un2 : Nat → Int32) (on : Int32) (asd : Int32) (io : Nat → Int32) (ia : Nat → Int32) (kept : Int32) (tr : Int64) (k : Int32) (hn : n ≤ 10) (sz : Nat) : Met l yX2_idle wsX2_idle ({ frames := 5, cells := 0, slots := 0, locals := 120 }) (va_Pc [.ref (h 0), .int k] (cPre D (tX h cA) (wX h cA by_ ln pl tk tp (nI n) may hd fi un sz2 may2 hd2 fi2 un2 on asd io ia kept tr) sz)) (va_Qi (fun r (_ : Unit) => r = s_X2_idle n may hd fi un on asd k) (fun _ _ => True) (fun q => sz ≤ q)) 0 0 (fun q => sz ≤ q) := by
  refine Met.ofW (cc := cX2_idle) (maxL := 2) (ret := (some .int)) (by decide) rfl ?_
  intro p e s m args below meth c s₁ B hml hv
  obtain ⟨rfl, hsz, hP, hK, hD, hN⟩ := hv
  have hx := B.exec
  have hb := B.bytes
  have hr := B.returns
  have hts := atoms_spec (ws := wsX2_idle) B.pre
  have hown : s.vm.findClass RX2 = some m.cls := findClass_of_methodNamed B.named
  have hlocks := B.notSynchronized
  have hinX2 : ∀ w ∈ wsX20, w ∈ wsX2_idle := fun w h => List.mem_cons_of_mem _ (List.mem_append_left _ (List.mem_append_right _ h))
  subst hsz
  obtain ⟨A, hAe⟩ : ∃ A : Nat → Prop, A = (fun q : Nat => s.heap.size ≤ q) := ⟨_, rfl⟩
  have hA : ∀ q : Nat, s.heap.size ≤ q → A q := fun q h => by rw [hAe]; exact h
  have hS : va_S A s.heap s.heap [] := va_S.rf
  subst hAe
  have hl := lv_entry ([.ref (h 0), .int k]) (n := 2) (Nat.le_of_ble_eq_true rfl)
  rw [lg_entry_eq]
  generalize (lg_sl ([.ref (h 0), .int k]) ++ List.replicate (2 - (lg_sl ([.ref (h 0), .int k])).length) Slot.unset).toArray = ls at hl ⊢
  replace hl : lv_has ls 2 [(0, .ref (h 0)), (1, .int k)] := hl
  have hKe := hK.sub (tys' := []) [] rfl
  refine lv_aload_n hx hb dX2_idle_0 rfl (lv_at hl 0 rfl) ?_
  refine lv_iload_n hx hb dX2_idle_1 rfl (lv_at hl 1 rfl) ?_
  refine ro_i (D := D) (va_runV (As := [.int k]) (rest := []) ⟨hx, hb, hml, hown, hts⟩ (c_X2_isRule l D h cA n by_ ln pl tk tp may hd fi un sz2 may2 hd2 fi2 un2 on asd io ia kept tr k (by first | assumption | omega) _) (cwV 1 hts gX2_idle_X2_isRule rfl rfl rfl (by decide +kernel) ⟨Nat.le_of_ble_eq_true rfl, Nat.le_of_ble_eq_true rfl⟩) ⟨cPre.blind, va_recv hK hP (ci := 2) (q0 := 0) rfl rfl, cPre.mk hP hK hD hN⟩ rfl rfl hl.1 rfl (lv_room (Nat.le_of_ble_eq_true rfl)) dX2_idle_2 ⟨Nat.zero_le _, Nat.zero_le _⟩) hS hA (fun H locs hkp0 hS => ?_)
  replace hP := hkp0 _ hP
  refine lv_if_ne (tgt := 10) hx hb dX2_idle_5 (by decide) (fun c_5_1 => ?_) (fun c_5_1 => ?_)
  · refine lv_aload_n hx hb dX2_idle_10 rfl (lv_at hl 0 rfl) ?_
    refine va_get (D := D) (ci := 2) (v := .int on) (C := RX2) (T := TX2) (N := 9) hx hb hts hinX2 hown hK hP 0 rfl rfl 3 (by decide) (hts (.fieldLink RX2 51 "HoldUnless" "on" "I") (by decide +kernel)) (fun _ h9 => h9) rfl dX2_idle_11 ?_
    refine lv_iload_n hx hb dX2_idle_14 rfl (lv_at hl 1 rfl) ?_
    refine ro_i (D := D) (va_runS (As := [.int on, .int k]) (rest := []) ⟨hx, hb, hml, hown, hts⟩ (c_X2_bitOf l D on k  _) (va_cwS 2 hts gX2_idle_X2_bitOf rfl rfl rfl (by decide +kernel) ⟨Nat.le_of_ble_eq_true rfl, Nat.le_of_ble_eq_true rfl⟩) ⟨cPre.blind, cPre.mk vP0 hKe vD0 hN⟩ rfl rfl hl.1 rfl (lv_room (Nat.le_of_ble_eq_true rfl)) dX2_idle_15 ⟨Nat.zero_le _, Nat.zero_le _⟩) hS hA (fun H locs hkp0 hS => ?_)
    replace hP := hkp0 _ hP
    refine lv_if_ne (tgt := 24) hx hb dX2_idle_18 (by decide) (fun c_18_2 => ?_) (fun c_18_2 => ?_)
    · refine lv_aload_n hx hb dX2_idle_24 rfl (lv_at hl 0 rfl) ?_
      refine lv_aload_n hx hb dX2_idle_25 rfl (lv_at hl 0 rfl) ?_
      refine va_get (D := D) (ci := 2) (v := .int on) (C := RX2) (T := TX2) (N := 9) hx hb hts hinX2 hown hK hP 0 rfl rfl 3 (by decide) (hts (.fieldLink RX2 51 "HoldUnless" "on" "I") (by decide +kernel)) (fun _ h9 => h9) rfl dX2_idle_26 ?_
      refine lv_iload_n hx hb dX2_idle_29 rfl (lv_at hl 1 rfl) ?_
      refine lv_iconst (v := 0) hx hb dX2_idle_30 (by decide) ?_
      refine ro_i (D := D) (va_runS (As := [.int on, .int k, .int 0]) (rest := [.ref (h 0)]) ⟨hx, hb, hml, hown, hts⟩ (c_X2_withBit l D on k 0  _) (va_cwS 3 hts gX2_idle_X2_withBit rfl rfl rfl (by decide +kernel) ⟨Nat.le_of_ble_eq_true rfl, Nat.le_of_ble_eq_true rfl⟩) ⟨cPre.blind, cPre.mk vP0 hKe vD0 hN⟩ rfl rfl hl.1 rfl (lv_room (Nat.le_of_ble_eq_true rfl)) dX2_idle_31 ⟨Nat.zero_le _, Nat.zero_le _⟩) hS hA (fun H locs hkp0 hS => ?_)
      replace hP := hkp0 _ hP
      refine lv_aload_n hx hb dX2_idle_34 rfl (lv_at hl 0 rfl) ?_
      refine va_get (D := D) (ci := 2) (v := .int asd) (C := RX2) (T := TX2) (N := 9) hx hb hts hinX2 hown hK hP 0 rfl rfl 4 (by decide) (hts (.fieldLink RX2 54 "HoldUnless" "assumed" "I") (by decide +kernel)) (fun _ h9 => h9) rfl dX2_idle_35 ?_
      refine ro_i (D := D) (va_runV (As := [.int (s_X2_withBit on k 0), .int asd]) (rest := []) ⟨hx, hb, hml, hown, hts⟩ (c_X2_sameSetsWith l D h cA n by_ ln pl tk tp may hd fi un sz2 may2 hd2 fi2 un2 on asd io ia kept tr (s_X2_withBit on k 0) asd (by first | assumption | omega) _) (cwV 2 hts gX2_idle_X2_sameSetsWith rfl rfl rfl (by decide +kernel) ⟨Nat.le_of_ble_eq_true rfl, Nat.le_of_ble_eq_true rfl⟩) ⟨cPre.blind, va_recv hK hP (ci := 2) (q0 := 0) rfl rfl, cPre.mk hP hK hD hN⟩ rfl rfl hl.1 rfl (lv_room (Nat.le_of_ble_eq_true rfl)) dX2_idle_38 ⟨Nat.zero_le _, Nat.zero_le _⟩) hS hA (fun H locs hkp0 hS => ?_)
      replace hP := hkp0 _ hP
      refine lv_if_eq (tgt := 48) hx hb dX2_idle_41 (by decide) (fun c_41_3 => ?_) (fun c_41_3 => ?_)
      · refine lv_iconst (v := 0) hx hb dX2_idle_48 (by decide) ?_
        exact ro_iret hx hb hr hS hlocks (show s_X2_idle n may hd fi un on asd k = 0 from by (unfold s_X2_idle; (try dsimp only); (try rw [if_neg c_5_1]); (try rw [if_neg c_18_2]); (try rw [if_pos c_41_3]); first | done | rfl)).symm dX2_idle_49
      · refine lv_iconst (v := 1) hx hb dX2_idle_44 (by decide) ?_
        refine lv_goto (tgt := 49) hx hb dX2_idle_45 (by decide) ?_
        exact ro_iret hx hb hr hS hlocks (show s_X2_idle n may hd fi un on asd k = 1 from by (unfold s_X2_idle; (try dsimp only); (try rw [if_neg c_5_1]); (try rw [if_neg c_18_2]); (try rw [if_neg c_41_3]); first | done | rfl)).symm dX2_idle_49
    · refine lv_bipush (v := (-2)) hx hb dX2_idle_21 (by decide) ?_
      exact ro_iret hx hb hr hS hlocks (show s_X2_idle n may hd fi un on asd k = (-2) from by (unfold s_X2_idle; (try dsimp only); (try rw [if_neg c_5_1]); (try rw [if_pos c_18_2]); first | done | rfl)).symm dX2_idle_23
  · refine lv_iconst (v := (-1)) hx hb dX2_idle_8 (by decide) ?_
    exact ro_iret hx hb hr hS hlocks (show s_X2_idle n may hd fi un on asd k = (-1) from by (unfold s_X2_idle; (try dsimp only); (try rw [if_pos c_5_1]); first | done | rfl)).symm dX2_idle_9

def s_X2_alike (n : Nat) (may : Int32) (hd : Nat → Int32) (fi : Nat → Int32) (un : Nat → Int32) (on : Int32) (asd : Int32) (io : Nat → Int32) (ia : Nat → Int32) (kept : Int32) (image : Int32) : Int32 := (if (s_X2_isImage image) = 0 then (-1) else (if (s_X2_bitOf kept image) = 0 then (-2) else (if (s_X2_sameSetsWith n may hd fi un on asd (io image.toNatClampNeg) (ia image.toNatClampNeg)) = 0 then 0 else 1)))
set_option maxHeartbeats 4000000 in
set_option maxRecDepth 100000 in
theorem c_X2_alike (l : Launch) (D : va_G) (h : Nat → Nat) (cA : Nat → ClassId) (n : Nat) (by_ : Nat → Int32) (ln : Int32) (pl : Int32) (tk : Int32) (tp : Int32) (may : Int32) (hd : Nat → Int32) (fi : Nat → Int32) (un : Nat → Int32) (sz2 : Int32) (may2 : Int32) (hd2 : Nat → Int32) (fi2 : Nat → Int32) (un2 : Nat → Int32) (on : Int32) (asd : Int32) (io : Nat → Int32) (ia : Nat → Int32) (kept : Int32) (tr : Int64) (image : Int32) (hn : n ≤ 10) (sz : Nat) : Met l yX2_alike wsX2_alike ({ frames := 5, cells := 0, slots := 0, locals := 120 }) (va_Pc [.ref (h 0), .int image] (cPre D (tX h cA) (wX h cA by_ ln pl tk tp (nI n) may hd fi un sz2 may2 hd2 fi2 un2 on asd io ia kept tr) sz)) (va_Qi (fun r (_ : Unit) => r = s_X2_alike n may hd fi un on asd io ia kept image) (fun _ _ => True) (fun q => sz ≤ q)) 0 0 (fun q => sz ≤ q) := by
  refine Met.ofW (cc := cX2_alike) (maxL := 2) (ret := (some .int)) (by decide) rfl ?_
  intro p e s m args below meth c s₁ B hml hv
  obtain ⟨rfl, hsz, hP, hK, hD, hN⟩ := hv
  have hx := B.exec
  have hb := B.bytes
  have hr := B.returns
  have hts := atoms_spec (ws := wsX2_alike) B.pre
  have hown : s.vm.findClass RX2 = some m.cls := findClass_of_methodNamed B.named
  have hlocks := B.notSynchronized
  have hinX2 : ∀ w ∈ wsX20, w ∈ wsX2_alike := fun w h => List.mem_cons_of_mem _ (List.mem_append_left _ (List.mem_append_right _ h))
  subst hsz
  obtain ⟨A, hAe⟩ : ∃ A : Nat → Prop, A = (fun q : Nat => s.heap.size ≤ q) := ⟨_, rfl⟩
  have hA : ∀ q : Nat, s.heap.size ≤ q → A q := fun q h => by rw [hAe]; exact h
  have hS : va_S A s.heap s.heap [] := va_S.rf
  subst hAe
  have hl := lv_entry ([.ref (h 0), .int image]) (n := 2) (Nat.le_of_ble_eq_true rfl)
  rw [lg_entry_eq]
  generalize (lg_sl ([.ref (h 0), .int image]) ++ List.replicate (2 - (lg_sl ([.ref (h 0), .int image])).length) Slot.unset).toArray = ls at hl ⊢
  replace hl : lv_has ls 2 [(0, .ref (h 0)), (1, .int image)] := hl
  have hKe := hK.sub (tys' := []) [] rfl
  refine lv_iload_n hx hb dX2_alike_0 rfl (lv_at hl 1 rfl) ?_
  refine ro_i (D := D) (va_runS (As := [.int image]) (rest := []) ⟨hx, hb, hml, hown, hts⟩ (c_X2_isImage l D image  _) (va_cwS 1 hts gX2_alike_X2_isImage rfl rfl rfl (by decide +kernel) ⟨Nat.le_of_ble_eq_true rfl, Nat.le_of_ble_eq_true rfl⟩) ⟨cPre.blind, cPre.mk vP0 hKe vD0 hN⟩ rfl rfl hl.1 rfl (lv_room (Nat.le_of_ble_eq_true rfl)) dX2_alike_1 ⟨Nat.zero_le _, Nat.zero_le _⟩) hS hA (fun H locs hkp0 hS => ?_)
  replace hP := hkp0 _ hP
  refine lv_if_ne (tgt := 9) hx hb dX2_alike_4 (by decide) (fun c_4_1 => ?_) (fun c_4_1 => ?_)
  · refine lv_aload_n hx hb dX2_alike_9 rfl (lv_at hl 0 rfl) ?_
    refine va_get (D := D) (ci := 2) (v := .int kept) (C := RX2) (T := TX2) (N := 9) hx hb hts hinX2 hown hK hP 0 rfl rfl 7 (by decide) (hts (.fieldLink RX2 57 "HoldUnless" "imagesKept" "I") (by decide +kernel)) (fun _ h9 => h9) rfl dX2_alike_10 ?_
    refine lv_iload_n hx hb dX2_alike_13 rfl (lv_at hl 1 rfl) ?_
    refine ro_i (D := D) (va_runS (As := [.int kept, .int image]) (rest := []) ⟨hx, hb, hml, hown, hts⟩ (c_X2_bitOf l D kept image  _) (va_cwS 2 hts gX2_alike_X2_bitOf rfl rfl rfl (by decide +kernel) ⟨Nat.le_of_ble_eq_true rfl, Nat.le_of_ble_eq_true rfl⟩) ⟨cPre.blind, cPre.mk vP0 hKe vD0 hN⟩ rfl rfl hl.1 rfl (lv_room (Nat.le_of_ble_eq_true rfl)) dX2_alike_14 ⟨Nat.zero_le _, Nat.zero_le _⟩) hS hA (fun H locs hkp0 hS => ?_)
    replace hP := hkp0 _ hP
    refine lv_if_ne (tgt := 23) hx hb dX2_alike_17 (by decide) (fun c_17_2 => ?_) (fun c_17_2 => ?_)
    · refine lv_aload_n hx hb dX2_alike_23 rfl (lv_at hl 0 rfl) ?_
      refine lv_aload_n hx hb dX2_alike_24 rfl (lv_at hl 0 rfl) ?_
      refine va_get (D := D) (ci := 2) (v := .ref (h 11)) (C := RX2) (T := TX2) (N := 9) hx hb hts hinX2 hown hK hP 0 rfl rfl 5 (by decide) (hts (.fieldLink RX2 26 "HoldUnless" "imageOn" "[I") (by decide +kernel)) (fun _ h9 => h9) rfl dX2_alike_25 ?_
      refine lv_iload_n hx hb dX2_alike_28 rfl (lv_at hl 1 rfl) ?_
      refine va_iald hx hb hK hP 11 7 rfl rfl ((vp_image c_4_1)) dX2_alike_29 ?_
      refine lv_aload_n hx hb dX2_alike_30 rfl (lv_at hl 0 rfl) ?_
      refine va_get (D := D) (ci := 2) (v := .ref (h 12)) (C := RX2) (T := TX2) (N := 9) hx hb hts hinX2 hown hK hP 0 rfl rfl 6 (by decide) (hts (.fieldLink RX2 30 "HoldUnless" "imageAssumed" "[I") (by decide +kernel)) (fun _ h9 => h9) rfl dX2_alike_31 ?_
      refine lv_iload_n hx hb dX2_alike_34 rfl (lv_at hl 1 rfl) ?_
      refine va_iald hx hb hK hP 12 8 rfl rfl ((vp_image c_4_1)) dX2_alike_35 ?_
      refine ro_i (D := D) (va_runV (As := [.int (io image.toNatClampNeg), .int (ia image.toNatClampNeg)]) (rest := []) ⟨hx, hb, hml, hown, hts⟩ (c_X2_sameSetsWith l D h cA n by_ ln pl tk tp may hd fi un sz2 may2 hd2 fi2 un2 on asd io ia kept tr (io image.toNatClampNeg) (ia image.toNatClampNeg) (by first | assumption | omega) _) (cwV 2 hts gX2_alike_X2_sameSetsWith rfl rfl rfl (by decide +kernel) ⟨Nat.le_of_ble_eq_true rfl, Nat.le_of_ble_eq_true rfl⟩) ⟨cPre.blind, va_recv hK hP (ci := 2) (q0 := 0) rfl rfl, cPre.mk hP hK hD hN⟩ rfl rfl hl.1 rfl (lv_room (Nat.le_of_ble_eq_true rfl)) dX2_alike_36 ⟨Nat.zero_le _, Nat.zero_le _⟩) hS hA (fun H locs hkp0 hS => ?_)
      replace hP := hkp0 _ hP
      refine lv_if_eq (tgt := 46) hx hb dX2_alike_39 (by decide) (fun c_39_3 => ?_) (fun c_39_3 => ?_)
      · refine lv_iconst (v := 0) hx hb dX2_alike_46 (by decide) ?_
        exact ro_iret hx hb hr hS hlocks (show s_X2_alike n may hd fi un on asd io ia kept image = 0 from by (unfold s_X2_alike; (try dsimp only); (try rw [if_neg c_4_1]); (try rw [if_neg c_17_2]); (try rw [if_pos c_39_3]); first | done | rfl)).symm dX2_alike_47
      · refine lv_iconst (v := 1) hx hb dX2_alike_42 (by decide) ?_
        refine lv_goto (tgt := 47) hx hb dX2_alike_43 (by decide) ?_
        exact ro_iret hx hb hr hS hlocks (show s_X2_alike n may hd fi un on asd io ia kept image = 1 from by (unfold s_X2_alike; (try dsimp only); (try rw [if_neg c_4_1]); (try rw [if_neg c_17_2]); (try rw [if_neg c_39_3]); first | done | rfl)).symm dX2_alike_47
    · refine lv_bipush (v := (-2)) hx hb dX2_alike_20 (by decide) ?_
      exact ro_iret hx hb hr hS hlocks (show s_X2_alike n may hd fi un on asd io ia kept image = (-2) from by (unfold s_X2_alike; (try dsimp only); (try rw [if_neg c_4_1]); (try rw [if_pos c_17_2]); first | done | rfl)).symm dX2_alike_22
  · refine lv_iconst (v := (-1)) hx hb dX2_alike_7 (by decide) ?_
    exact ro_iret hx hb hr hS hlocks (show s_X2_alike n may hd fi un on asd io ia kept image = (-1) from by (unfold s_X2_alike; (try dsimp only); (try rw [if_pos c_4_1]); first | done | rfl)).symm dX2_alike_8

def s_X2_count (n : Nat) (may : Int32) (on : Int32) (asd : Int32) (ln : Int32) (what : Int32) : Int32 := (if what = 0 then (nI n) else (if what = 1 then (s_J6_bitCount_0f7a4 on) else (if what = 2 then may else (if what = 3 then asd else (if what = 4 then ln else (-1))))))
set_option maxHeartbeats 4000000 in
set_option maxRecDepth 100000 in
theorem c_X2_count (l : Launch) (D : va_G) (h : Nat → Nat) (cA : Nat → ClassId) (n : Nat) (by_ : Nat → Int32) (ln : Int32) (pl : Int32) (tk : Int32) (tp : Int32) (may : Int32) (hd : Nat → Int32) (fi : Nat → Int32) (un : Nat → Int32) (sz2 : Int32) (may2 : Int32) (hd2 : Nat → Int32) (fi2 : Nat → Int32) (un2 : Nat → Int32) (on : Int32) (asd : Int32) (io : Nat → Int32) (ia : Nat → Int32) (kept : Int32) (tr : Int64) (what : Int32) (hn : n ≤ 10) (sz : Nat) : Met l yX2_count wsX2_count ({ frames := 1, cells := 0, slots := 0, locals := 20 }) (va_Pc [.ref (h 0), .int what] (cPre D (tX h cA) (wX h cA by_ ln pl tk tp (nI n) may hd fi un sz2 may2 hd2 fi2 un2 on asd io ia kept tr) sz)) (va_Qi (fun r (_ : Unit) => r = s_X2_count n may on asd ln what) (fun _ _ => True) (fun q => sz ≤ q)) 0 0 (fun q => sz ≤ q) := by
  refine Met.ofW (cc := cX2_count) (maxL := 2) (ret := (some .int)) (by decide) rfl ?_
  intro p e s m args below meth c s₁ B hml hv
  obtain ⟨rfl, hsz, hP, hK, hD, hN⟩ := hv
  have hx := B.exec
  have hb := B.bytes
  have hr := B.returns
  have hts := atoms_spec (ws := wsX2_count) B.pre
  have hown : s.vm.findClass RX2 = some m.cls := findClass_of_methodNamed B.named
  have hlocks := B.notSynchronized
  have hinX0 : ∀ w ∈ wsX00, w ∈ wsX2_count := fun w h => List.mem_cons_of_mem _ (List.mem_append_left _ (List.mem_append_right _ h))
  have hinX1 : ∀ w ∈ wsX10, w ∈ wsX2_count := fun w h => List.mem_cons_of_mem _ (List.mem_append_right _ h)
  have hinX2 : ∀ w ∈ wsX20, w ∈ wsX2_count := fun w h => List.mem_cons_of_mem _ (List.mem_append_left _ (List.mem_append_left _ (List.mem_append_right _ h)))
  subst hsz
  obtain ⟨A, hAe⟩ : ∃ A : Nat → Prop, A = (fun q : Nat => s.heap.size ≤ q) := ⟨_, rfl⟩
  have hA : ∀ q : Nat, s.heap.size ≤ q → A q := fun q h => by rw [hAe]; exact h
  have hS : va_S A s.heap s.heap [] := va_S.rf
  subst hAe
  have hl := lv_entry ([.ref (h 0), .int what]) (n := 2) (Nat.le_of_ble_eq_true rfl)
  rw [lg_entry_eq]
  generalize (lg_sl ([.ref (h 0), .int what]) ++ List.replicate (2 - (lg_sl ([.ref (h 0), .int what])).length) Slot.unset).toArray = ls at hl ⊢
  replace hl : lv_has ls 2 [(0, .ref (h 0)), (1, .int what)] := hl
  have hKe := hK.sub (tys' := []) [] rfl
  refine lv_iload_n hx hb dX2_count_0 rfl (lv_at hl 1 rfl) ?_
  by_cases k_1_1 : what = 0
  · refine lv_tableIn (tgt := 36) hx hb dX2_count_1 (by rw [k_1_1]; decide) (by rw [k_1_1]; decide) (by rw [k_1_1]; rfl) (by decide) ?_
    refine lv_aload_n hx hb dX2_count_36 rfl (lv_at hl 0 rfl) ?_
    refine va_get (D := D) (ci := 2) (v := .ref (h 3)) (C := RX2) (T := TX2) (N := 9) hx hb hts hinX2 hown hK hP 0 rfl rfl 1 (by decide) (hts (.fieldLink RX2 19 "HoldUnless" "book" "LHoldUnless$RuleBook;") (by decide +kernel)) (fun _ h9 => h9) rfl dX2_count_37 ?_
    refine va_getN (D := D) (ci := 0) (v := .int (nI n)) (C := RX0) (T := TX0) (N := 5) hx hb hts hinX0 hown hK hP 3 rfl rfl 0 (by decide) (hN.use 18 rfl) (fun _ h9 => h9) rfl dX2_count_40 ?_
    exact ro_iret hx hb hr hS hlocks (show s_X2_count n may on asd ln what = (nI n) from by (unfold s_X2_count; (try dsimp only); (try rw [if_pos k_1_1]); first | done | rfl)).symm dX2_count_43
  · by_cases k_1_2 : what = 1
    · refine lv_tableIn (tgt := 44) hx hb dX2_count_1 (by rw [k_1_2]; decide) (by rw [k_1_2]; decide) (by rw [k_1_2]; rfl) (by decide) ?_
      refine lv_aload_n hx hb dX2_count_44 rfl (lv_at hl 0 rfl) ?_
      refine va_get (D := D) (ci := 2) (v := .int on) (C := RX2) (T := TX2) (N := 9) hx hb hts hinX2 hown hK hP 0 rfl rfl 3 (by decide) (hts (.fieldLink RX2 51 "HoldUnless" "on" "I") (by decide +kernel)) (fun _ h9 => h9) rfl dX2_count_45 ?_
      refine ro_i (D := D) (va_runS (As := [.int on]) (rest := []) ⟨hx, hb, hml, hown, hts⟩ (c_J6_bitCount_0f7a4 l D on  _) (va_cwS 1 hts gX2_count_J6_bitCount_0f7a4 rfl rfl rfl (by decide +kernel) ⟨Nat.le_of_ble_eq_true rfl, Nat.le_of_ble_eq_true rfl⟩) ⟨cPre.blind, cPre.mk vP0 hKe vD0 hN⟩ rfl rfl hl.1 rfl (lv_room (Nat.le_of_ble_eq_true rfl)) dX2_count_48 ⟨Nat.zero_le _, Nat.zero_le _⟩) hS hA (fun H locs hkp0 hS => ?_)
      replace hP := hkp0 _ hP
      exact ro_iret hx hb hr hS hlocks (show s_X2_count n may on asd ln what = (s_J6_bitCount_0f7a4 on) from by (unfold s_X2_count; (try dsimp only); (try rw [if_neg k_1_1]); (try rw [if_pos k_1_2]); first | done | rfl)).symm dX2_count_51
    · by_cases k_1_3 : what = 2
      · refine lv_tableIn (tgt := 52) hx hb dX2_count_1 (by rw [k_1_3]; decide) (by rw [k_1_3]; decide) (by rw [k_1_3]; rfl) (by decide) ?_
        refine lv_aload_n hx hb dX2_count_52 rfl (lv_at hl 0 rfl) ?_
        refine va_get (D := D) (ci := 2) (v := .ref (h 3)) (C := RX2) (T := TX2) (N := 9) hx hb hts hinX2 hown hK hP 0 rfl rfl 1 (by decide) (hts (.fieldLink RX2 19 "HoldUnless" "book" "LHoldUnless$RuleBook;") (by decide +kernel)) (fun _ h9 => h9) rfl dX2_count_53 ?_
        refine va_getN (D := D) (ci := 0) (v := .int may) (C := RX0) (T := TX0) (N := 5) hx hb hts hinX0 hown hK hP 3 rfl rfl 1 (by decide) (hN.use 20 rfl) (fun _ h9 => h9) rfl dX2_count_56 ?_
        exact ro_iret hx hb hr hS hlocks (show s_X2_count n may on asd ln what = may from by (unfold s_X2_count; (try dsimp only); (try rw [if_neg k_1_1]); (try rw [if_neg k_1_2]); (try rw [if_pos k_1_3]); first | done | rfl)).symm dX2_count_59
      · by_cases k_1_4 : what = 3
        · refine lv_tableIn (tgt := 60) hx hb dX2_count_1 (by rw [k_1_4]; decide) (by rw [k_1_4]; decide) (by rw [k_1_4]; rfl) (by decide) ?_
          refine lv_aload_n hx hb dX2_count_60 rfl (lv_at hl 0 rfl) ?_
          refine va_get (D := D) (ci := 2) (v := .int asd) (C := RX2) (T := TX2) (N := 9) hx hb hts hinX2 hown hK hP 0 rfl rfl 4 (by decide) (hts (.fieldLink RX2 54 "HoldUnless" "assumed" "I") (by decide +kernel)) (fun _ h9 => h9) rfl dX2_count_61 ?_
          exact ro_iret hx hb hr hS hlocks (show s_X2_count n may on asd ln what = asd from by (unfold s_X2_count; (try dsimp only); (try rw [if_neg k_1_1]); (try rw [if_neg k_1_2]); (try rw [if_neg k_1_3]); (try rw [if_pos k_1_4]); first | done | rfl)).symm dX2_count_64
        · by_cases k_1_5 : what = 4
          · refine lv_tableIn (tgt := 65) hx hb dX2_count_1 (by rw [k_1_5]; decide) (by rw [k_1_5]; decide) (by rw [k_1_5]; rfl) (by decide) ?_
            refine lv_aload_n hx hb dX2_count_65 rfl (lv_at hl 0 rfl) ?_
            refine va_get (D := D) (ci := 2) (v := .ref (h 1)) (C := RX2) (T := TX2) (N := 9) hx hb hts hinX2 hown hK hP 0 rfl rfl 0 (by decide) (hts (.fieldLink RX2 10 "HoldUnless" "text" "LHoldUnless$Text;") (by decide +kernel)) (fun _ h9 => h9) rfl dX2_count_66 ?_
            refine va_getN (D := D) (ci := 1) (v := .int ln) (C := RX1) (T := TX1) (N := 5) hx hb hts hinX1 hown hK hP 1 rfl rfl 1 (by decide) (hN.use 16 rfl) (fun _ h9 => h9) rfl dX2_count_69 ?_
            exact ro_iret hx hb hr hS hlocks (show s_X2_count n may on asd ln what = ln from by (unfold s_X2_count; (try dsimp only); (try rw [if_neg k_1_1]); (try rw [if_neg k_1_2]); (try rw [if_neg k_1_3]); (try rw [if_neg k_1_4]); (try rw [if_pos k_1_5]); first | done | rfl)).symm dX2_count_72
          · have ne_6 := lv_neT (a := 0) k_1_1 (by decide)
            have ne_7 := lv_neT (a := 1) k_1_2 (by decide)
            have ne_8 := lv_neT (a := 2) k_1_3 (by decide)
            have ne_9 := lv_neT (a := 3) k_1_4 (by decide)
            have ne_10 := lv_neT (a := 4) k_1_5 (by decide)
            refine lv_tableOut (tgt := 73) hx hb dX2_count_1 (by omega) (by decide) ?_
            refine lv_iconst (v := (-1)) hx hb dX2_count_73 (by decide) ?_
            exact ro_iret hx hb hr hS hlocks (show s_X2_count n may on asd ln what = (-1) from by (unfold s_X2_count; (try dsimp only); (try rw [if_neg k_1_1]); (try rw [if_neg k_1_2]); (try rw [if_neg k_1_3]); (try rw [if_neg k_1_4]); (try rw [if_neg k_1_5]); first | done | rfl)).symm dX2_count_74

def s_X2_trace (tr : Int64) : Int64 := tr
set_option maxHeartbeats 4000000 in
set_option maxRecDepth 100000 in
theorem c_X2_trace (l : Launch) (D : va_G) (h : Nat → Nat) (cA : Nat → ClassId) (n : Nat) (by_ : Nat → Int32) (ln : Int32) (pl : Int32) (tk : Int32) (tp : Int32) (may : Int32) (hd : Nat → Int32) (fi : Nat → Int32) (un : Nat → Int32) (sz2 : Int32) (may2 : Int32) (hd2 : Nat → Int32) (fi2 : Nat → Int32) (un2 : Nat → Int32) (on : Int32) (asd : Int32) (io : Nat → Int32) (ia : Nat → Int32) (kept : Int32) (tr : Int64) (hn : n ≤ 10) (sz : Nat) : Met l yX2_trace wsX2_trace ({ frames := 0, cells := 0, slots := 0, locals := 0 }) (va_Pc [.ref (h 0)] (cPre D (tX h cA) (wX h cA by_ ln pl tk tp (nI n) may hd fi un sz2 may2 hd2 fi2 un2 on asd io ia kept tr) sz)) (va_Ql (fun r (_ : Unit) => r = s_X2_trace tr) (fun _ _ => True) (fun q => sz ≤ q)) 0 0 (fun q => sz ≤ q) := by
  refine Met.ofW (cc := cX2_trace) (maxL := 1) (ret := (some .long)) (by decide) rfl ?_
  intro p e s m args below meth c s₁ B hml hv
  obtain ⟨rfl, hsz, hP, hK, hD, hN⟩ := hv
  have hx := B.exec
  have hb := B.bytes
  have hr := B.returns
  have hts := atoms_spec (ws := wsX2_trace) B.pre
  have hown : s.vm.findClass RX2 = some m.cls := findClass_of_methodNamed B.named
  have hlocks := B.notSynchronized
  have hinX2 : ∀ w ∈ wsX20, w ∈ wsX2_trace := fun w h => List.mem_cons_of_mem _ (List.mem_append_right _ h)
  subst hsz
  obtain ⟨A, hAe⟩ : ∃ A : Nat → Prop, A = (fun q : Nat => s.heap.size ≤ q) := ⟨_, rfl⟩
  have hA : ∀ q : Nat, s.heap.size ≤ q → A q := fun q h => by rw [hAe]; exact h
  have hS : va_S A s.heap s.heap [] := va_S.rf
  subst hAe
  have hl := lv_entry ([.ref (h 0)]) (n := 1) (Nat.le_of_ble_eq_true rfl)
  rw [lg_entry_eq]
  generalize (lg_sl ([.ref (h 0)]) ++ List.replicate (1 - (lg_sl ([.ref (h 0)])).length) Slot.unset).toArray = ls at hl ⊢
  replace hl : lv_has ls 1 [(0, .ref (h 0))] := hl
  have hKe := hK.sub (tys' := []) [] rfl
  refine lv_aload_n hx hb dX2_trace_0 rfl (lv_at hl 0 rfl) ?_
  refine va_get (D := D) (ci := 2) (v := .long tr) (C := RX2) (T := TX2) (N := 9) hx hb hts hinX2 hown hK hP 0 rfl rfl 8 (by decide) (hts (.fieldLink RX2 157 "HoldUnless" "traceSum" "J") (by decide +kernel)) (fun _ h9 => h9) rfl dX2_trace_1 ?_
  exact ro_lret hx hb hr hS hlocks (show s_X2_trace tr = tr from by (unfold s_X2_trace; (try dsimp only); first | done | rfl)).symm dX2_trace_4

