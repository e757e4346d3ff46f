/-! ===== the whole text ===== -/
section ITO
variable {by_ tx : Nat → Int32} {len : Nat} {G : En} {r : Rr}
theorem goes_0s (rr : Nat) {u : Nat} (hu : u < 8) : s_X3_goesTo rr (nI 0) (nI u) = if (10 : Int32) ≤ nI rr then -1 else 1 := by
  have h8 : ¬ (8 : Int32) ≤ nI u := nI_ge (a := u) (b := 8) hu (by omega)
  have h10 : ¬ nI u = 10 := nI_ne (b := 10) (by omega) (by omega) (by omega)
  have h11 : ¬ nI u = 11 := nI_ne (b := 11) (by omega) (by omega) (by omega)
  unfold s_X3_goesTo
  rw [if_neg h8, if_pos nI_0, if_neg h10, if_neg h11]
theorem goes_0n (rr : Nat) : s_X3_goesTo rr (nI 0) (nI 10) = if (10 : Int32) ≤ nI rr then -1 else 2 := by
  unfold s_X3_goesTo
  rw [if_pos (show (8 : Int32) ≤ nI 10 by decide), if_pos nI_0, if_pos (show nI 10 = 10 from rfl), if_neg (show ¬ nI 10 = 11 by decide)]
theorem goes_0m (rr : Nat) : s_X3_goesTo rr (nI 0) (nI 11) = nI 7 := by
  unfold s_X3_goesTo
  rw [if_pos (show (8 : Int32) ≤ nI 11 by decide), if_pos nI_0, if_neg (show ¬ nI 11 = 10 by decide), if_pos (show nI 11 = 11 from rfl)]
  rfl
theorem goes_0o (rr : Nat) {u : Nat} (h8 : 8 ≤ u) (hu : u ≤ 13) (h10 : ¬ u = 10) (h11 : ¬ u = 11) : s_X3_goesTo rr (nI 0) (nI u) = -1 := by
  unfold s_X3_goesTo
  rw [if_pos (show (8 : Int32) ≤ nI u from nI_le (a := 8) h8 (by omega)), if_pos nI_0, if_neg (show ¬ nI u = 10 from nI_ne (b := 10) h10 (by omega) (by omega)), if_neg (show ¬ nI u = 11 from nI_ne (b := 11) h11 (by omega) (by omega))]
section RU
variable {items prm : Int32} {q nb : Nat} {hb fb ub rhd rif rul : Nat → Int32}
theorem rule_ok (hC : Ch len by_ tx) (hq : q ≤ len) (hn : nb ≤ 10) (h13 : ¬ (s_X1_advance by_ len q).2.1 = 13) (h11 : ¬ (s_X1_advance by_ len q).2.1 = 11) (hM : MQx tx len G items (nI 0) q (rhd, rif, rul, nb, prm) r) : RRs by_ tx len G r items q nb hb fb ub rhd rif rul prm (s_X1_readRule by_ len (s_X1_advance by_ len q).1 (s_X1_advance by_ len q).2.1 (s_X1_advance by_ len q).2.2 nb hb fb ub) := by
  have hl := hC.1
  have hg13 : s_X3_goesTo nb (nI 0) 13 = -1 := goes_0o nb (u := 13) (by omega) (by omega) (by omega) (by omega)
  have room : s_X0_hasRoom nb = 0 ↔ ¬ nb < 10 := by
    unfold s_X0_hasRoom
    by_cases z : nb < 10
    · rw [if_neg (show ¬ (10 : Int32) ≤ nI nb from nI_ge (a := nb) (b := 10) z (by omega))]
      exact ⟨fun h => absurd h (by decide), fun h => absurd z h⟩
    · rw [if_pos (show (10 : Int32) ≤ nI nb from nI_le (a := 10) (by omega) (by omega))]
      exact ⟨fun _ => z, fun _ => rfl⟩
  have bad : (∀ u : Nat, u ≤ 12 → (s_X1_advance by_ len q).2.1 = nI u → s_X3_goesTo nb (nI 0) (nI u) = -1) → r = mF len G (s_X1_advance by_ len q).2.2 := fun h => mq_bad hC hq hM h hg13 (fun z => absurd z h13)
  unfold s_X1_readRule
  by_cases c : (s_X1_advance by_ len q).2.1 = 10
  · rw [if_pos c]
    by_cases z : nb < 10
    · rw [if_neg (fun h => room.mp h z)]
      have hg : s_X3_goesTo nb (nI 0) (nI 10) = nI 2 := by
        rw [goes_0n, if_neg (show ¬ (10 : Int32) ≤ nI nb from nI_ge (a := nb) (b := 10) z (by omega))]
        rfl
      obtain ⟨g1, g2, g3⟩ := mq_go (u := 10) (p := 2) hC hq hM (by omega) c (by omega) hg
      rw [if_neg (by omega)] at g3
      have et : s_X3_take rhd rif rul nb prm (nI 2) (nI 10) = (upd rhd nb 8, upd rif nb 0, upd rul nb 0, nb + 1, prm) := by
        unfold s_X3_take
        rw [if_neg (by decide), if_pos (by decide)]
      dsimp only at g3
      rw [et] at g3
      exact j57_ok (P := 2) hC g2 g1 z (vp_in_nI (n := 8) (by omega) (by omega)) (by omega) (fun _ => rfl) (fun h => absurd rfl h) g3
    · rw [if_pos (room.mpr z)]
      left
      refine ⟨rfl, bad (fun u hu eu => ?_)⟩
      have e : u = 10 := (nI_eq (b := 10) (by omega) (by omega)).mp (eu.symm.trans c)
      rw [e, goes_0n, if_pos (show (10 : Int32) ≤ nI nb from nI_le (a := 10) (by omega) (by omega))]
  · rw [if_neg c]
    by_cases s : s_X2_isSentence (s_X1_advance by_ len q).2.1 = 0
    · rw [if_pos s]
      left
      refine ⟨rfl, bad (fun u hu eu => ?_)⟩
      rw [eu] at s
      exact goes_0o nb ((sen_u (by omega)).mp s) (by omega) (fun z => c (by rw [eu, z]; rfl)) (fun z => h11 (by rw [eu, z]; rfl))
    · rw [if_neg s]
      obtain ⟨u, hu, eu⟩ := isSent_of s
      by_cases z : nb < 10
      · rw [if_neg (fun h => room.mp h z)]
        have hg : s_X3_goesTo nb (nI 0) (nI u) = nI 1 := by
          rw [goes_0s nb hu, if_neg (show ¬ (10 : Int32) ≤ nI nb from nI_ge (a := nb) (b := 10) z (by omega))]
          rfl
        obtain ⟨g1, g2, g3⟩ := mq_go (p := 1) hC hq hM (by omega) eu (by omega) hg
        rw [if_neg (by omega)] at g3
        have et : s_X3_take rhd rif rul nb prm (nI 1) (nI u) = (upd rhd nb (nI u), upd rif nb 0, upd rul nb 0, nb + 1, prm) := by
          unfold s_X3_take
          rw [if_pos (by decide)]
        dsimp only at g3
        rw [et] at g3
        rw [eu]
        exact j57_ok (P := 1) hC g2 g1 z (vp_in_nI (by omega) (by omega)) (by omega) (fun h => absurd h (by omega)) (fun _ => nI_ne (b := 8) (by omega) (by omega) (by omega)) g3
      · rw [if_pos (room.mpr z)]
        left
        refine ⟨rfl, bad (fun u' hu' eu' => ?_)⟩
        have e : u' = u := (nI_eq (by omega) (by omega)).mp (eu'.symm.trans eu)
        rw [e, goes_0s nb hu, if_pos (show (10 : Int32) ≤ nI nb from nI_le (a := 10) (by omega) (by omega))]
theorem may_ok (hC : Ch len by_ tx) (hq : q ≤ len) (h11 : (s_X1_advance by_ len q).2.1 = 11) (hM : MQx tx len G items (nI 0) q (rhd, rif, rul, nb, prm) r) : ((s_X1_readMay by_ len (s_X1_advance by_ len q).1 prm).1 = 0 ∧ r = mF len G (s_X1_readMay by_ len (s_X1_advance by_ len q).1 prm).2.2.2.1) ∨ ∃ (q' : Nat) (fr : Int32), q < q' ∧ q' ≤ len ∧ V8 fr ∧ s_X1_readMay by_ len (s_X1_advance by_ len q).1 prm = (1, (s_X1_advance by_ len q').1, (s_X1_advance by_ len q').2.1, (s_X1_advance by_ len q').2.2, prm ||| fr) ∧ MQx tx len G (items + 1) (nI 0) q' (rhd, rif, rul, nb, prm ||| fr) r := by
  have hl := hC.1
  have V0 : V8 0 := V8_nI (v := 0) (by omega)
  obtain ⟨g1, g2, g3⟩ := mq_go (u := 11) (p := 7) hC hq hM (by omega) h11 (by omega) (goes_0m nb)
  rw [take_id (by omega), if_neg (by omega)] at g3
  have g3' : MQx tx len G items (nI 7) (s_X1_advance by_ len q).1 (rhd, rif, rul, nb, prm ||| 0) r := by
    rw [Int32.or_zero]; exact g3
  obtain ⟨q', pl', rdg', k1, k2, k3, k4, k5, k6, k7⟩ := rs_go (pa := 7) (pb := 8) (rr := nb) (S := fun x => (rhd, rif, rul, nb, prm ||| x)) hC (fun _ => rfl) (fun u hu => by rw [goes_rr (by decide)]; exact (by decide +kernel : ∀ u, u < 8 → s_X3_goesTo 0 (nI 7) (nI u) = nI 8) u hu) (fun u hu => by rw [goes_rr (by decide)]; exact (by decide +kernel : ∀ u, u < 8 → s_X3_goesTo 0 (nI 8) (nI u) = nI 8) u hu) (by omega) (fun x u hu => by
    show s_X3_take rhd rif rul nb (prm ||| x) (nI 8) (nI u) = _
    unfold s_X3_take
    rw [if_neg (by decide), if_neg (by decide), if_neg (by decide), if_neg (by decide), if_pos (by decide), Int32.or_assoc]) len (s_X1_advance by_ len q).1 (by omega) g2 300 7 0 (by omega) V0 (Or.inl rfl) g3'
  have em : s_X1_readMay by_ len (s_X1_advance by_ len q).1 prm = if rdg' = 0 then (0, (s_X1_advance by_ len q').1, (s_X1_advance by_ len q').2.1, (s_X1_advance by_ len q').2.2, prm) else (if (s_X1_advance by_ len q').2.1 = 12 then (1, (s_X1_advance by_ len (s_X1_advance by_ len q').1).1, (s_X1_advance by_ len (s_X1_advance by_ len q').1).2.1, (s_X1_advance by_ len (s_X1_advance by_ len q').1).2.2, prm ||| rdg') else (0, (s_X1_advance by_ len q').1, (s_X1_advance by_ len q').2.1, (s_X1_advance by_ len q').2.2, prm)) := by
    unfold s_X1_readMay
    have e := rs_eq (by_ := by_) (len := len) (s_X1_advance by_ len (s_X1_advance by_ len q).1)
    rw [k1] at e
    generalize s_X1_advance by_ len (s_X1_advance by_ len q).1 = B at e ⊢
    obtain ⟨b1, b2, b3⟩ := B
    dsimp only at e ⊢
    rw [e]
  have hbad : ∀ u : Nat, u ≤ 12 → (s_X1_advance by_ len q').2.1 = nI u → 8 ≤ u := by
    intro u hu eu
    rw [eu] at k5
    exact (sen_u (by omega)).mp k5
  rw [em]
  by_cases z : rdg' = 0
  · have p7 : pl' = 7 := by
      rcases k7 with z1 | z1
      · exact z1.1
      · exact absurd z z1.2
    rw [p7] at k6
    rw [if_pos z]
    left
    refine ⟨rfl, mq_bad hC k3 k6 (fun u hu eu => ?_) ?_ (fun _ => by decide)⟩
    · rw [goes_rr (by decide)]
      exact (by decide +kernel : ∀ u, u ≤ 12 → 8 ≤ u → s_X3_goesTo 0 (nI 7) (nI u) = -1) u hu (hbad u hu eu)
    · rw [goes_rr (by decide)]
      decide +kernel
  · have p8 : pl' = 8 := by
      rcases k7 with z1 | z1
      · exact absurd z1.2 z
      · exact z1.1
    rw [p8] at k6
    rw [if_neg z]
    by_cases c : (s_X1_advance by_ len q').2.1 = 12
    · rw [if_pos c]
      right
      have hg : s_X3_goesTo nb (nI 8) (nI 12) = nI 0 := by
        rw [goes_rr (by decide)]
        decide +kernel
      obtain ⟨i1, i2, i3⟩ := mq_go (u := 12) (p := 0) hC k3 k6 (by omega) c (by omega) hg
      rw [take_id (Or.inl rfl), if_pos rfl] at i3
      exact ⟨_, rdg', by omega, i2, k4, rfl, i3⟩
    · rw [if_neg c]
      left
      refine ⟨rfl, mq_bad hC k3 k6 (fun u hu eu => ?_) ?_ (fun _ => by decide)⟩
      · rw [goes_rr (by decide)]
        exact (by decide +kernel : ∀ u, u ≤ 12 → ¬ u = 12 → 8 ≤ u → s_X3_goesTo 0 (nI 8) (nI u) = -1) u hu (fun z => c (by rw [eu, z]; rfl)) (hbad u hu eu)
      · rw [goes_rr (by decide)]
        decide +kernel
end RU
def BK (n : Nat) (hd fi un rhd rif rul : Nat → Int32) : Prop := n ≤ 10 ∧ ∀ k, k < n → rhd k = hd k ∧ rif k = fi k ∧ rul k = un k ∧ vp_in (hd k) 9 ∧ vp_in (fi k) 256 ∧ vp_in (un k) 256
theorem BK_add {n : Nat} {hd fi un rhd rif rul : Nat → Int32} (h : BK n hd fi un rhd rif rul) (hn : n < 10) {nh ni nu : Int32} (h1 : vp_in nh 9) (h2 : V8 ni) (h3 : V8 nu) : BK (n + 1) (upd hd n nh) (upd fi n ni) (upd un n nu) (upd rhd n nh) (upd rif n ni) (upd rul n nu) := by
  refine ⟨by omega, fun k hk => ?_⟩
  by_cases e : k = n
  · rw [e, pk_us, pk_us, pk_us, pk_us, pk_us, pk_us]
    exact ⟨rfl, rfl, rfl, h1, V8_vp h2, V8_vp h3⟩
  · rw [pk_un e, pk_un e, pk_un e, pk_un e, pk_un e, pk_un e]
    exact h.2 k (by omega)
def Fin_ (len : Nat) (G : En) (r : Rr) (res : Int32 × Nat × Int32 × Int32 × Nat × Int32 × (Nat → Int32) × (Nat → Int32) × (Nat → Int32)) : Prop :=
  (res.1 = -9 ∧ r = mF len G res.2.2.2.1) ∨ (∃ (j : Nat) (rhd rif rul : Nat → Int32), j ≤ 300 ∧ res.1 = nI j ∧ BK res.2.2.2.2.1 res.2.2.2.2.2.2.1 res.2.2.2.2.2.2.2.1 res.2.2.2.2.2.2.2.2 rhd rif rul ∧ V8 res.2.2.2.2.2.1 ∧ r = mS G (nI j) (rhd, rif, rul, res.2.2.2.2.1, res.2.2.2.2.2.1))
theorem into_it (hC : Ch len by_ tx) {hb0 fb0 ub0 rhd0 rif0 rul0 : Nat → Int32} (hM0 : MQx tx len G 0 (nI 0) 0 (rhd0, rif0, rul0, 0, 0) r) : ∀ m : Nat, m ≤ 300 →
    (∃ (q nb : Nat) (may : Int32) (hb fb ub rhd rif rul : Nat → Int32), itE (f_X1_readInto_15 by_ len) ((s_X1_advance by_ len 0).1, (s_X1_advance by_ len 0).2.1, (s_X1_advance by_ len 0).2.2, 0, 0, hb0, fb0, ub0) m = .inr ((s_X1_advance by_ len q).1, (s_X1_advance by_ len q).2.1, (s_X1_advance by_ len q).2.2, nb, may, hb, fb, ub) ∧ m ≤ q ∧ q ≤ len ∧ BK nb hb fb ub rhd rif rul ∧ V8 may ∧ MQx tx len G (nI m) (nI 0) q (rhd, rif, rul, nb, may) r) ∨
    (∃ res, itE (f_X1_readInto_15 by_ len) ((s_X1_advance by_ len 0).1, (s_X1_advance by_ len 0).2.1, (s_X1_advance by_ len 0).2.2, 0, 0, hb0, fb0, ub0) m = .inl res ∧ Fin_ len G r res)
  | 0, _ => by
    refine Or.inl ⟨0, 0, 0, hb0, fb0, ub0, rhd0, rif0, rul0, rfl, Nat.le_refl 0, Nat.zero_le _, ⟨by omega, fun k hk => absurd hk (Nat.not_lt_zero k)⟩, V8_nI (v := 0) (by omega), ?_⟩
    rw [nI_0] at hM0 ⊢
    exact hM0
  | m + 1, hm => by
    rcases into_it hC hM0 (hb0 := hb0) (fb0 := fb0) (ub0 := ub0) m (by omega) with ⟨q, nb, may, hb, fb, ub, rhd, rif, rul, e, h1, h2, h3, h4, h5⟩ | ⟨res, e, hF⟩
    · by_cases c13 : (s_X1_advance by_ len q).2.1 = 13
      · refine Or.inr ⟨_, itE_succ e (by
          unfold f_X1_readInto_15
          dsimp only
          rw [if_pos c13]), Or.inr ⟨m, rhd, rif, rul, by omega, rfl, h3, h4, mq_over hC h2 h5 c13⟩⟩
      · by_cases c11 : (s_X1_advance by_ len q).2.1 = 11
        · rcases may_ok hC h2 c11 h5 with ⟨i1, i2⟩ | ⟨q', fr, i1, i2, i3, i4, i5⟩
          · generalize hw : s_X1_readMay by_ len (s_X1_advance by_ len q).1 may = w at i1 i2
            obtain ⟨w1, w2, w3, w4, w5⟩ := w
            dsimp only at i1 i2
            refine Or.inr ⟨((-9), w2, w3, w4, nb, w5, hb, fb, ub), itE_succ e ?_, Or.inl ⟨rfl, i2⟩⟩
            unfold f_X1_readInto_15
            dsimp only
            rw [if_neg c13, if_pos c11, hw]
            dsimp only
            rw [if_pos i1]
          · refine Or.inl ⟨q', nb, may ||| fr, hb, fb, ub, rhd, rif, rul, itE_succ e ?_, by omega, i2, h3, V8_or h4 i3, by rw [← nI_1]; exact i5⟩
            unfold f_X1_readInto_15
            dsimp only
            rw [if_neg c13, if_pos c11, i4]
            dsimp only
            rw [if_neg (by decide)]
        · rcases rule_ok (hb := hb) (fb := fb) (ub := ub) hC h2 h3.1 c13 c11 h5 with ⟨i1, i2⟩ | ⟨q', nh, ni, nu, i0, i1, i2, i3, i4, i5, i6, i7⟩
          · generalize hw : s_X1_readRule by_ len (s_X1_advance by_ len q).1 (s_X1_advance by_ len q).2.1 (s_X1_advance by_ len q).2.2 nb hb fb ub = w at i1 i2
            obtain ⟨w1, w2, w3, w4, w5, w6, w7, w8⟩ := w
            dsimp only at i1 i2
            refine Or.inr ⟨((-9), w2, w3, w4, w5, may, w6, w7, w8), itE_succ e ?_, Or.inl ⟨rfl, i2⟩⟩
            unfold f_X1_readInto_15
            dsimp only
            rw [if_neg c13, if_neg c11, hw]
            dsimp only
            rw [if_pos i1]
          · refine Or.inl ⟨q', nb + 1, may, upd hb nb nh, upd fb nb ni, upd ub nb nu, upd rhd nb nh, upd rif nb ni, upd rul nb nu, itE_succ e ?_, by omega, i2, BK_add h3 i0 i3 i4 i5, h4, by rw [← nI_1]; exact i7⟩
            unfold f_X1_readInto_15
            dsimp only
            rw [if_neg c13, if_neg c11, i6]
            dsimp only
            rw [if_neg (by decide)]
    · exact Or.inr ⟨res, itE_stop e (m + 1) (by omega), hF⟩
theorem into_ok (hC : Ch len by_ tx) {n : Nat} {hd fi un kp rhd rif rul hd2 fi2 un2 : Nat → Int32} {on may asd : Int32} : Fin_ len (n, hd, fi, un, kp, on, may, asd) (s_X3_rules tx len n hd fi un on may asd kp rhd rif rul) (s_X1_readInto by_ len hd2 fi2 un2) := by
  have hl := hC.1
  have h := into_it hC (mq_start (tx := tx) (len := len) (n := n) (hd := hd) (fi := fi) (un := un) (kp := kp) (rhd := rhd) (rif := rif) (rul := rul) (on := on) (may := may) (asd := asd)) (hb0 := hd2) (fb0 := fi2) (ub0 := un2) 300 (Nat.le_refl 300)
  generalize s_X3_rules tx len n hd fi un on may asd kp rhd rif rul = R at h ⊢
  have eu : s_X1_readInto by_ len hd2 fi2 un2 = onE (itE (f_X1_readInto_15 by_ len) ((s_X1_advance by_ len 0).1, (s_X1_advance by_ len 0).2.1, (s_X1_advance by_ len 0).2.2, 0, 0, hd2, fi2, un2) 300) (fun st => (nI 300, st)) := by
    unfold s_X1_readInto s_X0_forgetAll
    generalize nI 300 = M
    generalize (300 : Nat) = N
    generalize s_X1_advance by_ len 0 = A
    obtain ⟨a1, a2, a3⟩ := A
    dsimp only
    generalize itE (f_X1_readInto_15 by_ len) (a1, a2, a3, 0, 0, hd2, fi2, un2) N = z
    cases z with
    | inl z => rfl
    | inr st =>
      obtain ⟨q5, tk5, tp5, n5, may5, hd5, fi5, un5⟩ := st
      rw [onE_r, onE_r]
      dsimp only
      by_cases c : tk5 = 13
      · rw [if_pos c]
      · rw [if_neg c]
  rw [eu]
  rcases h with ⟨q, nb, may1, hb, fb, ub, rhd1, rif1, rul1, e, h1, h2, h3, h4, h5⟩ | ⟨res, e, hF⟩
  · rw [e, onE_r]
    have eq : q = len := by omega
    have c13 : (s_X1_advance by_ len q).2.1 = 13 := by rw [eq]; exact tk_end hC
    exact Or.inr ⟨300, rhd1, rif1, rul1, Nat.le_refl 300, rfl, h3, h4, mq_over hC h2 h5 c13⟩
  · rw [e, onE_l]
    exact hF
theorem f98_at (rhd rif rul : Nat → Int32) (s : (Nat → Int32) × (Nat → Int32) × (Nat → Int32)) : ∀ m k : Nat, k < m → (itr (f_X3_rules_98 rhd rif rul) s m).1 k = rhd k ∧ (itr (f_X3_rules_98 rhd rif rul) s m).2.1 k = rif k ∧ (itr (f_X3_rules_98 rhd rif rul) s m).2.2 k = rul k
  | 0, k, hk => absurd hk (Nat.not_lt_zero k)
  | m + 1, k, hk => by
    have ih := f98_at rhd rif rul s m k
    rw [itr_succ]
    generalize itr (f_X3_rules_98 rhd rif rul) s m = w at ih ⊢
    obtain ⟨w1, w2, w3⟩ := w
    show upd w1 m (rhd m) k = rhd k ∧ upd w2 m (rif m) k = rif k ∧ upd w3 m (rul m) k = rul k
    by_cases e : k = m
    · rw [e, pk_us, pk_us, pk_us]; exact ⟨rfl, rfl, rfl⟩
    · rw [pk_un e, pk_un e, pk_un e]
      exact ih (by omega)
theorem on_new {n : Nat} (hn : n ≤ 10) : vp_in (((1 : Int32) <<< ((nI n) &&& 31)) - 1) (2 ^ n) := by
  rw [vp_in_iff]
  exact (by decide +kernel : ∀ n : Nat, n ≤ 10 → 0 ≤ (((1 : Int32) <<< ((nI n) &&& 31)) - 1).toInt ∧ (((1 : Int32) <<< ((nI n) &&& 31)) - 1).toInt < ((2 ^ n : Nat) : Int)) n hn
end ITO
section QR
variable {n len : Nat} {on may asd kept : Int32} {hd fi un hdm fim unm by_ tx io ia kp ko ka : Nat → Int32}
theorem q_rules_f {h : Nat → Nat} {hd2 fi2 un2 rhd rif rul : Nat → Int32} {r1 r2 pl1 tk1 tp1 may1 on1 asd1 kept1 on2 may3 asd2 : Int32} {ln1 n1 n2 ln2 : Nat} {hd1 fi1 un1 hd3 fi3 un3 kp3 : Nat → Int32} (hR : Rel n len on may asd kept hd fi un hdm fim unm by_ tx io ia kp ko ka) (h1 : (r1, h 3, h 7, ln1, pl1, tk1, tp1, n1, may1, hd1, fi1, un1, on1, asd1, kept1) = s_X2_rules h by_ len hd2 fi2 un2 on asd kept) (hf : (s_X1_readInto by_ len hd2 fi2 un2).1 = -9) (h2 : (r2, n2, hd3, fi3, un3, on2, may3, asd2, kp3, ln2) = s_X3_rules tx len n hdm fim unm on may asd kp rhd rif rul) : r1 = r2 ∧ n = n2 ∧ ln1 = ln2 ∧ on1 = on2 ∧ may = may3 ∧ asd1 = asd2 ∧ Rel n ln1 on1 may asd1 kept1 hd fi un hd3 fi3 un3 by_ tx io ia kp3 ko ka := by
  have hC : Ch len by_ tx := ⟨hR.hlen, hR.2.2.1⟩
  have hF := into_ok hC (n := n) (hd := hdm) (fi := fim) (un := unm) (kp := kp) (rhd := rhd) (rif := rif) (rul := rul) (hd2 := hd2) (fi2 := fi2) (un2 := un2) (on := on) (may := may) (asd := asd)
  rw [← h2] at hF
  clear h2
  unfold s_X2_rules at h1
  generalize s_X1_readInto by_ len hd2 fi2 un2 = w at h1 hf hF
  obtain ⟨w1, w2, w3, w4, w5, w6, w7, w8, w9⟩ := w
  rcases hF with ⟨_, er⟩ | ⟨j, _, _, _, hj, e, _⟩
  · dsimp only at h1 hf er
    rw [if_pos hf] at h1
    have a1 : r1 = -10 - w4 := congrArg (fun x => x.1) h1
    have a4 : ln1 = len := congrArg (fun x => x.2.2.2.1) h1
    have a13 : on1 = on := congrArg (fun x => x.2.2.2.2.2.2.2.2.2.2.2.2.1) h1
    have a14 : asd1 = asd := congrArg (fun x => x.2.2.2.2.2.2.2.2.2.2.2.2.2.1) h1
    have a15 : kept1 = kept := congrArg (fun x => x.2.2.2.2.2.2.2.2.2.2.2.2.2.2) h1
    have b1 : r2 = -10 - w4 := congrArg (fun x => x.1) er
    have b2 : n2 = n := congrArg (fun x => x.2.1) er
    have b3 : hd3 = hdm := congrArg (fun x => x.2.2.1) er
    have b4 : fi3 = fim := congrArg (fun x => x.2.2.2.1) er
    have b5 : un3 = unm := congrArg (fun x => x.2.2.2.2.1) er
    have b6 : on2 = on := congrArg (fun x => x.2.2.2.2.2.1) er
    have b7 : may3 = may := congrArg (fun x => x.2.2.2.2.2.2.1) er
    have b8 : asd2 = asd := congrArg (fun x => x.2.2.2.2.2.2.2.1) er
    have b9 : kp3 = kp := congrArg (fun x => x.2.2.2.2.2.2.2.2.1) er
    have b10 : ln2 = len := congrArg (fun x => x.2.2.2.2.2.2.2.2.2) er
    rw [a1, a4, a13, a14, a15, b1, b2, b3, b4, b5, b6, b7, b8, b9, b10]
    exact ⟨rfl, rfl, rfl, rfl, rfl, rfl, hR⟩
  · dsimp only at e hf
    rw [hf] at e
    have := congrArg Int32.toInt e
    rw [nI_toInt (by omega)] at this
    have z : (-9 : Int32).toInt = -9 := by decide
    omega
theorem q_rules_s {h : Nat → Nat} {hd2 fi2 un2 rhd rif rul : Nat → Int32} {r1 r2 pl1 tk1 tp1 may1 on1 asd1 kept1 on2 may3 asd2 : Int32} {ln1 n1 n2 ln2 : Nat} {hd1 fi1 un1 hd3 fi3 un3 kp3 : Nat → Int32} (hR : Rel n len on may asd kept hd fi un hdm fim unm by_ tx io ia kp ko ka) (h1 : (r1, h 7, h 3, ln1, pl1, tk1, tp1, n1, may1, hd1, fi1, un1, on1, asd1, kept1) = s_X2_rules h by_ len hd2 fi2 un2 on asd kept) (hf : ¬ (s_X1_readInto by_ len hd2 fi2 un2).1 = -9) (h2 : (r2, n2, hd3, fi3, un3, on2, may3, asd2, kp3, ln2) = s_X3_rules tx len n hdm fim unm on may asd kp rhd rif rul) : r1 = r2 ∧ n1 = n2 ∧ ln1 = ln2 ∧ on1 = on2 ∧ may1 = may3 ∧ asd1 = asd2 ∧ Rel n1 ln1 on1 may1 asd1 kept1 hd1 fi1 un1 hd3 fi3 un3 by_ tx io ia kp3 ko ka := by
  have hC : Ch len by_ tx := ⟨hR.hlen, hR.2.2.1⟩
  have hF := into_ok hC (n := n) (hd := hdm) (fi := fim) (un := unm) (kp := kp) (rhd := rhd) (rif := rif) (rul := rul) (hd2 := hd2) (fi2 := fi2) (un2 := un2) (on := on) (may := may) (asd := asd)
  rw [← h2] at hF
  clear h2
  unfold s_X2_rules at h1
  generalize s_X1_readInto by_ len hd2 fi2 un2 = w at h1 hf hF
  obtain ⟨w1, w2, w3, w4, w5, w6, w7, w8, w9⟩ := w
  rcases hF with ⟨e, _⟩ | ⟨j, g1, g2, g3, hj, e, hB, hV, er⟩
  · exact absurd e hf
  · dsimp only at h1 hf er e hB hV
    rw [if_neg hf] at h1
    have a1 : r1 = w1 := congrArg (fun x => x.1) h1
    have a4 : ln1 = 0 := congrArg (fun x => x.2.2.2.1) h1
    have a8 : n1 = w5 := congrArg (fun x => x.2.2.2.2.2.2.2.1) h1
    have a9 : may1 = w6 := congrArg (fun x => x.2.2.2.2.2.2.2.2.1) h1
    have a10 : hd1 = w7 := congrArg (fun x => x.2.2.2.2.2.2.2.2.2.1) h1
    have a11 : fi1 = w8 := congrArg (fun x => x.2.2.2.2.2.2.2.2.2.2.1) h1
    have a12 : un1 = w9 := congrArg (fun x => x.2.2.2.2.2.2.2.2.2.2.2.1) h1
    have a13 : on1 = ((1 <<< ((nI w5) &&& 31)) - 1) := congrArg (fun x => x.2.2.2.2.2.2.2.2.2.2.2.2.1) h1
    have a14 : asd1 = 0 := congrArg (fun x => x.2.2.2.2.2.2.2.2.2.2.2.2.2.1) h1
    have a15 : kept1 = 0 := congrArg (fun x => x.2.2.2.2.2.2.2.2.2.2.2.2.2.2) h1
    unfold mS at er
    dsimp only at er
    have h98 := f98_at g1 g2 g3 (hdm, fim, unm) w5
    generalize itr (f_X3_rules_98 g1 g2 g3) (hdm, fim, unm) w5 = z at er h98
    obtain ⟨z1, z2, z3⟩ := z
    dsimp only at er h98
    have b1 : r2 = nI j := congrArg (fun x => x.1) er
    have b2 : n2 = w5 := congrArg (fun x => x.2.1) er
    have b3 : hd3 = z1 := congrArg (fun x => x.2.2.1) er
    have b4 : fi3 = z2 := congrArg (fun x => x.2.2.2.1) er
    have b5 : un3 = z3 := congrArg (fun x => x.2.2.2.2.1) er
    have b6 : on2 = ((1 <<< ((nI w5) &&& 31)) - 1) := congrArg (fun x => x.2.2.2.2.2.1) er
    have b7 : may3 = w6 := congrArg (fun x => x.2.2.2.2.2.2.1) er
    have b8 : asd2 = 0 := congrArg (fun x => x.2.2.2.2.2.2.2.1) er
    have b9 : kp3 = (upd (upd kp (0 : Int32).toNatClampNeg (vp_nar .boolean 0)) (1 : Int32).toNatClampNeg (vp_nar .boolean 0)) := congrArg (fun x => x.2.2.2.2.2.2.2.2.1) er
    have b10 : ln2 = 0 := congrArg (fun x => x.2.2.2.2.2.2.2.2.2) er
    rw [a1, a4, a8, a9, a10, a11, a12, a13, a14, a15, b1, b2, b3, b4, b5, b6, b7, b8, b9, b10]
    refine ⟨e, rfl, rfl, rfl, rfl, rfl, ⟨hB.1, by omega, on_new hB.1, V8_vp hV, vp_in_nI (n := 0) (by omega) (by omega)⟩, fun k hk => ?_, fun i hi => absurd hi (Nat.not_lt_zero i), fun i hi => Or.inl ⟨?_, ?_⟩⟩
    · obtain ⟨c1, c2, c3⟩ := h98 k hk
      rw [c1, c2, c3]
      exact hB.2 k hk
    · have e0 : (0 : Int32).toNatClampNeg = 0 := by decide
      have e1 : (1 : Int32).toNatClampNeg = 1 := by decide
      have ev : vp_nar .boolean 0 = 0 := by decide
      rw [e0, e1, ev]
      unfold upd
      by_cases q1 : i = 1
      · rw [if_pos q1]
      · rw [if_neg q1, if_pos (by omega)]
    · rw [bo_0 0 (by omega), b_0]
end QR
