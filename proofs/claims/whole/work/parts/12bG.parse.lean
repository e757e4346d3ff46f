/-! ===== the items, read down, against the machine ===== -/
section PRS
variable {by_ tx : Nat → Int32} {len : Nat} {G : En} {r : Rr}
theorem rs_j (j : Nat) (s : Int32 × Nat × Int32 × Int32) : f_X1_readSentences_4 by_ len j s = f_X1_readSentences_4 by_ len 0 s := rfl
theorem rs_stop {J : Nat} {rdg : Int32} {A : Nat × Int32 × Int32} (h : s_X2_isSentence A.2.1 = 0) : onE (itE (f_X1_readSentences_4 by_ len) (rdg, A) J) (fun st => st) = (rdg, A) := by
  cases J with
  | zero => rfl
  | succ J =>
    obtain ⟨a, b, c⟩ := A
    have e : f_X1_readSentences_4 by_ len 0 (rdg, a, b, c) = .inl (rdg, a, b, c) := by
      unfold f_X1_readSentences_4
      dsimp only
      rw [if_pos h]
    rw [itE_front rs_j, e]
    rfl
theorem rs_in {J : Nat} {rdg : Int32} {A : Nat × Int32 × Int32} (h : ¬ s_X2_isSentence A.2.1 = 0) : itE (f_X1_readSentences_4 by_ len) (rdg, A) (J + 1) = itE (f_X1_readSentences_4 by_ len) (rdg ||| (1 <<< (A.2.1 &&& 31)), s_X1_advance by_ len A.1) J := by
  obtain ⟨a, b, c⟩ := A
  have e : f_X1_readSentences_4 by_ len 0 (rdg, a, b, c) = .inr (rdg ||| (1 <<< (b &&& 31)), s_X1_advance by_ len a) := by
    unfold f_X1_readSentences_4
    dsimp only
    rw [if_neg h]
  rw [itE_front rs_j, e]
  rfl
theorem bit_n0 (x : Int32) {u : Nat} (hu : u < 8) : ¬ (x ||| (1 <<< (nI u &&& 31))) = 0 := by
  intro z
  have h1 : bt (x ||| (1 <<< (nI u &&& 31))) u = true := by
    rw [b_or, b_one u (by omega) (by omega), decide_eq_true rfl, Bool.or_true]
  rw [z, b_0] at h1
  exact absurd h1 (by decide)
theorem sen_u {u : Nat} (hu : u ≤ 14) : s_X2_isSentence (nI u) = 0 ↔ 8 ≤ u := (by decide +kernel : ∀ u, u ≤ 14 → (s_X2_isSentence (nI u) = 0 ↔ 8 ≤ u)) u hu
theorem rs_go (hC : Ch len by_ tx) {items : Int32} {pa pb rr : Nat} {S : Int32 → S5} (hrr : ∀ x, (S x).2.2.2.1 = rr) (hga : ∀ u, u < 8 → s_X3_goesTo rr (nI pa) (nI u) = nI pb) (hgb : ∀ u, u < 8 → s_X3_goesTo rr (nI pb) (nI u) = nI pb) (hpb : 0 < pb ∧ pb < 9) (hS : ∀ x u, u < 8 → s_X3_take (S x).1 (S x).2.1 (S x).2.2.1 (S x).2.2.2.1 (S x).2.2.2.2 (nI pb) (nI u) = S (x ||| (1 <<< (nI u &&& 31)))) :
    ∀ (d q : Nat), len - q ≤ d → q ≤ len → ∀ (J pl : Nat) (rdg : Int32), 300 ≤ J + q → V8 rdg → (pl = pa ∨ pl = pb) → MQx tx len G items (nI pl) q (S rdg) r →
      ∃ (q' pl' : Nat) (rdg' : Int32), onE (itE (f_X1_readSentences_4 by_ len) (rdg, s_X1_advance by_ len q) J) (fun st => st) = (rdg', s_X1_advance by_ len q') ∧ q ≤ q' ∧ q' ≤ len ∧ V8 rdg' ∧ s_X2_isSentence (s_X1_advance by_ len q').2.1 = 0 ∧ MQx tx len G items (nI pl') q' (S rdg') r ∧ ((pl' = pl ∧ rdg' = rdg) ∨ (pl' = pb ∧ ¬ rdg' = 0)) := by
  intro d
  induction d with
  | zero =>
    intro q hd hq J pl rdg hJ hV hpl hM
    have e : q = len := by omega
    have hs : s_X2_isSentence (s_X1_advance by_ len q).2.1 = 0 := by
      rw [e, tk_end hC]; decide
    exact ⟨q, pl, rdg, rs_stop hs, Nat.le_refl q, hq, hV, hs, hM, Or.inl ⟨rfl, rfl⟩⟩
  | succ d ih =>
    intro q hd hq J pl rdg hJ hV hpl hM
    have hl := hC.1
    by_cases hs : s_X2_isSentence (s_X1_advance by_ len q).2.1 = 0
    · exact ⟨q, pl, rdg, rs_stop hs, Nat.le_refl q, hq, hV, hs, hM, Or.inl ⟨rfl, rfl⟩⟩
    · obtain ⟨u, hu, eu⟩ := isSent_of hs
      have hg : s_X3_goesTo (S rdg).2.2.2.1 (nI pl) (nI u) = nI pb := by
        rw [hrr]
        rcases hpl with z | z
        · rw [z]; exact hga u hu
        · rw [z]; exact hgb u hu
      obtain ⟨g1, g2, g3⟩ := mq_go hC hq hM (by omega) eu (by omega) hg
      rw [hS rdg u hu, if_neg (by omega)] at g3
      obtain ⟨J', rfl⟩ : ∃ J', J = J' + 1 := ⟨J - 1, by omega⟩
      obtain ⟨q', pl', rdg', k1, k2, k3, k4, k5, k6, k7⟩ := ih (s_X1_advance by_ len q).1 (by omega) g2 J' pb (rdg ||| (1 <<< (nI u &&& 31))) (by omega) (V8_or hV (V8_one hu)) (Or.inr rfl) g3
      refine ⟨q', pl', rdg', ?_, by omega, k3, k4, k5, k6, Or.inr ?_⟩
      · rw [rs_in hs, eu]; exact k1
      · rcases k7 with ⟨z1, z2⟩ | z
        · exact ⟨z1, by rw [z2]; exact bit_n0 rdg hu⟩
        · exact z
theorem rs_eq (A : Nat × Int32 × Int32) : s_X1_readSentences by_ len A.1 A.2.1 A.2.2 = onE (itE (f_X1_readSentences_4 by_ len) (0, A) 300) (fun st => st) := by
  unfold s_X1_readSentences
  generalize (300 : Nat) = N
  obtain ⟨a, b, c⟩ := A
  dsimp only
theorem upd_upd (f : Nat → Int32) (k : Nat) (x y : Int32) : upd (upd f k x) k y = upd f k y := by
  funext i
  unfold upd
  by_cases e : i = k
  · rw [if_pos e, if_pos e]
  · rw [if_neg e, if_neg e, if_neg e]
/-- what has been read of a rule, and where the machine stands then -/
def RRs (by_ tx : Nat → Int32) (len : Nat) (G : En) (r : Rr) (items : Int32) (q nb : Nat) (hb fb ub rhd rif rul : Nat → Int32) (prm : Int32) (res : Int32 × Nat × Int32 × Int32 × Nat × (Nat → Int32) × (Nat → Int32) × (Nat → Int32)) : Prop :=
  (res.1 = 0 ∧ r = mF len G res.2.2.2.1) ∨ (∃ (q' : Nat) (nh ni nu : Int32), nb < 10 ∧ q < q' ∧ q' ≤ len ∧ vp_in nh 9 ∧ V8 ni ∧ V8 nu ∧ res = (1, (s_X1_advance by_ len q').1, (s_X1_advance by_ len q').2.1, (s_X1_advance by_ len q').2.2, nb + 1, upd hb nb nh, upd fb nb ni, upd ub nb nu) ∧ MQx tx len G (items + 1) (nI 0) q' (upd rhd nb nh, upd rif nb ni, upd rul nb nu, nb + 1, prm) r)
section JJ
variable {items prm nh ni nu : Int32} {q0 q nb P : Nat} {hb fb ub rhd rif rul : Nat → Int32}
theorem j119_ne (h : ¬ (nh = 8 ∧ ni = 0 ∧ nu = 0)) (hn : nb < 10) (A : Nat × Int32 × Int32) : j_X1_readRule_119 by_ len nb hb fb ub nh ni nu A.1 A.2.1 A.2.2 = if A.2.1 = 12 then (1, (s_X1_advance by_ len A.1).1, (s_X1_advance by_ len A.1).2.1, (s_X1_advance by_ len A.1).2.2, nb + 1, upd hb nb nh, upd fb nb ni, upd ub nb nu) else (0, A.1, A.2.1, A.2.2, nb, hb, fb, ub) := by
  have ea : s_X0_add nb hb fb ub nh ni nu = (nb + 1, upd hb nb nh, upd fb nb ni, upd ub nb nu) := by
    unfold s_X0_add s_X0_hasRoom
    rw [if_neg (show ¬ (10 : Int32) ≤ nI nb from nI_ge (a := nb) (b := 10) hn (by omega)), if_neg (by decide)]
  unfold j_X1_readRule_119
  rw [ea]
  generalize s_X1_advance by_ len A.1 = B
  obtain ⟨b1, b2, b3⟩ := B
  dsimp only
  by_cases c1 : nh = 8
  · rw [if_pos c1]
    by_cases c2 : ni = 0
    · rw [if_pos c2, if_neg (fun z => h ⟨c1, c2, z⟩)]
    · rw [if_neg c2]
  · rw [if_neg c1]
theorem j119_ok (hC : Ch len by_ tx) (hq : q ≤ len) (h0 : q0 < q) (hn : nb < 10) (hv : vp_in nh 9 ∧ V8 ni ∧ V8 nu) (hP : P = 1 ∨ P = 2 ∨ P = 4 ∨ P = 6) (h2 : P = 2 → nh = 8 ∧ ni = 0 ∧ nu = 0) (h2' : ¬ P = 2 → ¬ (nh = 8 ∧ ni = 0 ∧ nu = 0)) (hbd : ∀ u : Nat, u ≤ 12 → ¬ u = 12 → (s_X1_advance by_ len q).2.1 = nI u → s_X3_goesTo 0 (nI P) (nI u) = -1) (hM : MQx tx len G items (nI P) q (upd rhd nb nh, upd rif nb ni, upd rul nb nu, nb + 1, prm) r) : RRs by_ tx len G r items q0 nb hb fb ub rhd rif rul prm (j_X1_readRule_119 by_ len nb hb fb ub nh ni nu (s_X1_advance by_ len q).1 (s_X1_advance by_ len q).2.1 (s_X1_advance by_ len q).2.2) := by
  have hP0 : ¬ nI P = 0 := nI_ne0 (by omega) (by omega)
  have h13 : s_X3_goesTo (nb + 1) (nI P) 13 = -1 := by
    rw [goes_rr hP0]
    rcases hP with z | z | z | z <;> rw [z] <;> decide +kernel
  by_cases e : nh = 8 ∧ ni = 0 ∧ nu = 0
  · have hP2 : P = 2 := Classical.not_not.mp (fun z => h2' z e)
    left
    have er : j_X1_readRule_119 by_ len nb hb fb ub nh ni nu (s_X1_advance by_ len q).1 (s_X1_advance by_ len q).2.1 (s_X1_advance by_ len q).2.2 = (0, (s_X1_advance by_ len q).1, (s_X1_advance by_ len q).2.1, (s_X1_advance by_ len q).2.2, nb, hb, fb, ub) := by
      unfold j_X1_readRule_119
      rw [if_pos e.1, if_pos e.2.1, if_pos e.2.2]
    rw [er]
    refine ⟨rfl, mq_bad hC hq hM (fun u hu eu => ?_) h13 (fun _ => hP0)⟩
    show s_X3_goesTo (nb + 1) (nI P) (nI u) = -1
    rw [goes_rr hP0]
    by_cases c : u = 12
    · rw [c, hP2]; decide +kernel
    · exact hbd u hu c eu
  · have hP2 : ¬ P = 2 := fun z => e (h2 z)
    rw [j119_ne e hn]
    by_cases c : (s_X1_advance by_ len q).2.1 = 12
    · rw [if_pos c]
      have hg : s_X3_goesTo (nb + 1) (nI P) (nI 12) = nI 0 := by
        rw [goes_rr hP0]
        rcases hP with z | z | z | z
        · rw [z]; decide +kernel
        · exact absurd z hP2
        · rw [z]; decide +kernel
        · rw [z]; decide +kernel
      obtain ⟨g1, g2, g3⟩ := mq_go (u := 12) (p := 0) hC hq hM (by omega) c (by omega) hg
      rw [take_id (Or.inl rfl), if_pos rfl] at g3
      exact Or.inr ⟨_, nh, ni, nu, hn, by omega, g2, hv.1, hv.2.1, hv.2.2, rfl, g3⟩
    · rw [if_neg c]
      left
      refine ⟨rfl, mq_bad hC hq hM (fun u hu eu => ?_) h13 (fun _ => hP0)⟩
      show s_X3_goesTo (nb + 1) (nI P) (nI u) = -1
      rw [goes_rr hP0]
      exact hbd u hu (fun z => c (by rw [eu, z]; rfl)) eu
theorem j93_ok (hC : Ch len by_ tx) (hq : q ≤ len) (h0 : q0 < q) (hn : nb < 10) (hv : vp_in nh 9 ∧ V8 ni) (hP : P = 1 ∨ P = 2 ∨ P = 4) (h2 : P = 2 → nh = 8 ∧ ni = 0) (h2' : ¬ P = 2 → ¬ (nh = 8 ∧ ni = 0)) (hbd : ∀ u : Nat, u ≤ 12 → ¬ u = 12 → ¬ u = 9 → (s_X1_advance by_ len q).2.1 = nI u → s_X3_goesTo 0 (nI P) (nI u) = -1) (hM : MQx tx len G items (nI P) q (upd rhd nb nh, upd rif nb ni, upd rul nb 0, nb + 1, prm) r) : RRs by_ tx len G r items q0 nb hb fb ub rhd rif rul prm (j_X1_readRule_93 by_ len nb hb fb ub nh ni 0 (s_X1_advance by_ len q).1 (s_X1_advance by_ len q).2.1 (s_X1_advance by_ len q).2.2) := by
  have hP0 : ¬ nI P = 0 := nI_ne0 (by omega) (by omega)
  have hl := hC.1
  have V0 : V8 0 := V8_nI (v := 0) (by omega)
  have ej : j_X1_readRule_93 by_ len nb hb fb ub nh ni 0 (s_X1_advance by_ len q).1 (s_X1_advance by_ len q).2.1 (s_X1_advance by_ len q).2.2 = if (s_X1_advance by_ len q).2.1 = 9 then (match s_X1_readSentences by_ len (s_X1_advance by_ len (s_X1_advance by_ len q).1).1 (s_X1_advance by_ len (s_X1_advance by_ len q).1).2.1 (s_X1_advance by_ len (s_X1_advance by_ len q).1).2.2 with | (rv_64, plv_61, tkv_62, tpv_63) => (if rv_64 = 0 then (0, plv_61, tkv_62, tpv_63, nb, hb, fb, ub) else j_X1_readRule_119 by_ len nb hb fb ub nh ni rv_64 plv_61 tkv_62 tpv_63)) else j_X1_readRule_119 by_ len nb hb fb ub nh ni 0 (s_X1_advance by_ len q).1 (s_X1_advance by_ len q).2.1 (s_X1_advance by_ len q).2.2 := by
    unfold j_X1_readRule_93
    generalize s_X1_advance by_ len q = A
    obtain ⟨a1, a2, a3⟩ := A
    dsimp only
  rw [ej]
  by_cases c : (s_X1_advance by_ len q).2.1 = 9
  · rw [if_pos c]
    have hg : s_X3_goesTo (nb + 1) (nI P) (nI 9) = nI 5 := by
      rw [goes_rr hP0]
      rcases hP with z | z | z <;> rw [z] <;> decide +kernel
    obtain ⟨g1, g2, g3⟩ := mq_go (u := 9) (p := 5) hC hq hM (by omega) c (by omega) hg
    rw [take_id (by omega), if_neg (by omega)] at g3
    obtain ⟨q', pl', rdg', k1, k2, k3, k4, k5, k6, k7⟩ := rs_go (pa := 5) (pb := 6) (rr := nb + 1) (S := fun x => (upd rhd nb nh, upd rif nb ni, upd rul nb x, nb + 1, prm)) hC (fun _ => rfl) (fun u hu => by rw [goes_rr (by decide)]; exact (by decide +kernel : ∀ u, u < 8 → s_X3_goesTo 0 (nI 5) (nI u) = nI 6) u hu) (fun u hu => by rw [goes_rr (by decide)]; exact (by decide +kernel : ∀ u, u < 8 → s_X3_goesTo 0 (nI 6) (nI u) = nI 6) u hu) (by omega) (fun x u hu => by
      show s_X3_take (upd rhd nb nh) (upd rif nb ni) (upd rul nb x) (nb + 1) prm (nI 6) (nI u) = _
      unfold s_X3_take
      rw [if_neg (by decide), if_neg (by decide), if_neg (by decide), if_pos (by decide), Nat.add_sub_cancel, pk_us, upd_upd]) len (s_X1_advance by_ len q).1 (by omega) g2 300 5 0 (by omega) V0 (Or.inl rfl) g3
    rw [rs_eq, k1]
    have hbad5 : ∀ u : Nat, u ≤ 12 → (s_X1_advance by_ len q').2.1 = nI u → 8 ≤ u := by
      intro u hu eu
      rw [eu] at k5
      exact (sen_u (by omega)).mp k5
    by_cases z : rdg' = 0
    · have p5 : pl' = 5 := by
        rcases k7 with z1 | z1
        · exact z1.1
        · exact absurd z z1.2
      rw [p5] at k6
      generalize hD : s_X1_advance by_ len q' = D at hbad5
      obtain ⟨d1, d2, d3⟩ := D
      dsimp only
      rw [if_pos z]
      left
      refine ⟨rfl, ?_⟩
      have := mq_bad hC k3 k6 (fun u hu eu => by
        show s_X3_goesTo (nb + 1) (nI 5) (nI u) = -1
        rw [goes_rr (by decide)]
        rw [hD] at eu
        exact (by decide +kernel : ∀ u, u ≤ 12 → 8 ≤ u → s_X3_goesTo 0 (nI 5) (nI u) = -1) u hu (hbad5 u hu eu)) (by
        show s_X3_goesTo (nb + 1) (nI 5) 13 = -1
        rw [goes_rr (by decide)]
        decide +kernel) (fun _ => by decide)
      rw [hD] at this
      exact this
    · have p6 : pl' = 6 := by
        rcases k7 with z1 | z1
        · exact absurd z1.2 z
        · exact z1.1
      rw [p6] at k6
      have key := j119_ok (q0 := q0) (hb := hb) (fb := fb) (ub := ub) (P := 6) hC k3 (by omega) hn ⟨hv.1, hv.2, k4⟩ (by omega) (fun z => absurd z (by omega)) (fun _ z' => z z'.2.2) (fun u hu h12 eu => (by decide +kernel : ∀ u, u ≤ 12 → ¬ u = 12 → 8 ≤ u → s_X3_goesTo 0 (nI 6) (nI u) = -1) u hu h12 (hbad5 u hu eu)) k6
      generalize s_X1_advance by_ len q' = D at key
      obtain ⟨d1, d2, d3⟩ := D
      dsimp only at key ⊢
      rw [if_neg z]
      exact key
  · rw [if_neg c]
    exact j119_ok hC hq h0 hn ⟨hv.1, hv.2, V0⟩ (by omega) (fun z => ⟨(h2 z).1, (h2 z).2, rfl⟩) (fun z z' => h2' z ⟨z'.1, z'.2.1⟩) (fun u hu h12 eu => hbd u hu h12 (fun z => c (by rw [eu, z]; rfl)) eu) hM
theorem j57_ok (hC : Ch len by_ tx) (hq : q ≤ len) (h0 : q0 < q) (hn : nb < 10) (hv : vp_in nh 9) (hP : P = 1 ∨ P = 2) (h2 : P = 2 → nh = 8) (h2' : ¬ P = 2 → ¬ nh = 8) (hM : MQx tx len G items (nI P) q (upd rhd nb nh, upd rif nb 0, upd rul nb 0, nb + 1, prm) r) : RRs by_ tx len G r items q0 nb hb fb ub rhd rif rul prm (j_X1_readRule_57 by_ len q nb hb fb ub nh) := by
  have hP0 : ¬ nI P = 0 := nI_ne0 (by omega) (by omega)
  have hl := hC.1
  have V0 : V8 0 := V8_nI (v := 0) (by omega)
  have ej : j_X1_readRule_57 by_ len q nb hb fb ub nh = if (s_X1_advance by_ len q).2.1 = 8 then (match s_X1_readSentences by_ len (s_X1_advance by_ len (s_X1_advance by_ len q).1).1 (s_X1_advance by_ len (s_X1_advance by_ len q).1).2.1 (s_X1_advance by_ len (s_X1_advance by_ len q).1).2.2 with | (rv_84, plv_81, tkv_82, tpv_83) => (if rv_84 = 0 then (0, plv_81, tkv_82, tpv_83, nb, hb, fb, ub) else j_X1_readRule_93 by_ len nb hb fb ub nh rv_84 0 plv_81 tkv_82 tpv_83)) else j_X1_readRule_93 by_ len nb hb fb ub nh 0 0 (s_X1_advance by_ len q).1 (s_X1_advance by_ len q).2.1 (s_X1_advance by_ len q).2.2 := by
    unfold j_X1_readRule_57
    generalize s_X1_advance by_ len q = A
    obtain ⟨a1, a2, a3⟩ := A
    dsimp only
  rw [ej]
  by_cases c : (s_X1_advance by_ len q).2.1 = 8
  · rw [if_pos c]
    have hg : s_X3_goesTo (nb + 1) (nI P) (nI 8) = nI 3 := by
      rw [goes_rr hP0]
      rcases hP with z | z <;> rw [z] <;> decide +kernel
    obtain ⟨g1, g2, g3⟩ := mq_go (u := 8) (p := 3) hC hq hM (by omega) c (by omega) hg
    rw [take_id (by omega), if_neg (by omega)] at g3
    obtain ⟨q', pl', rdg', k1, k2, k3, k4, k5, k6, k7⟩ := rs_go (pa := 3) (pb := 4) (rr := nb + 1) (S := fun x => (upd rhd nb nh, upd rif nb x, upd rul nb 0, nb + 1, prm)) hC (fun _ => rfl) (fun u hu => by rw [goes_rr (by decide)]; exact (by decide +kernel : ∀ u, u < 8 → s_X3_goesTo 0 (nI 3) (nI u) = nI 4) u hu) (fun u hu => by rw [goes_rr (by decide)]; exact (by decide +kernel : ∀ u, u < 8 → s_X3_goesTo 0 (nI 4) (nI u) = nI 4) u hu) (by omega) (fun x u hu => by
      show s_X3_take (upd rhd nb nh) (upd rif nb x) (upd rul nb 0) (nb + 1) prm (nI 4) (nI u) = _
      unfold s_X3_take
      rw [if_neg (by decide), if_neg (by decide), if_pos (by decide), Nat.add_sub_cancel, pk_us, upd_upd]) len (s_X1_advance by_ len q).1 (by omega) g2 300 3 0 (by omega) V0 (Or.inl rfl) g3
    rw [rs_eq, k1]
    have hbad3 : ∀ u : Nat, u ≤ 12 → (s_X1_advance by_ len q').2.1 = nI u → 8 ≤ u := by
      intro u hu eu
      rw [eu] at k5
      exact (sen_u (by omega)).mp k5
    by_cases z : rdg' = 0
    · have p3 : pl' = 3 := by
        rcases k7 with z1 | z1
        · exact z1.1
        · exact absurd z z1.2
      rw [p3] at k6
      generalize hD : s_X1_advance by_ len q' = D at hbad3
      obtain ⟨d1, d2, d3⟩ := D
      dsimp only
      rw [if_pos z]
      left
      refine ⟨rfl, ?_⟩
      have := mq_bad hC k3 k6 (fun u hu eu => by
        show s_X3_goesTo (nb + 1) (nI 3) (nI u) = -1
        rw [goes_rr (by decide)]
        rw [hD] at eu
        exact (by decide +kernel : ∀ u, u ≤ 12 → 8 ≤ u → s_X3_goesTo 0 (nI 3) (nI u) = -1) u hu (hbad3 u hu eu)) (by
        show s_X3_goesTo (nb + 1) (nI 3) 13 = -1
        rw [goes_rr (by decide)]
        decide +kernel) (fun _ => by decide)
      rw [hD] at this
      exact this
    · have p4 : pl' = 4 := by
        rcases k7 with z1 | z1
        · exact absurd z1.2 z
        · exact z1.1
      rw [p4] at k6
      have key := j93_ok (q0 := q0) (hb := hb) (fb := fb) (ub := ub) (P := 4) hC k3 (by omega) hn ⟨hv, k4⟩ (by omega) (fun z => absurd z (by omega)) (fun _ z' => z z'.2) (fun u hu h12 h9 eu => (by decide +kernel : ∀ u, u ≤ 12 → ¬ u = 12 → ¬ u = 9 → 8 ≤ u → s_X3_goesTo 0 (nI 4) (nI u) = -1) u hu h12 h9 (hbad3 u hu eu)) k6
      generalize s_X1_advance by_ len q' = D at key
      obtain ⟨d1, d2, d3⟩ := D
      dsimp only at key ⊢
      rw [if_neg z]
      exact key
  · rw [if_neg c]
    refine j93_ok hC hq h0 hn ⟨hv, V0⟩ (by omega) (fun z => ⟨h2 z, rfl⟩) (fun z z' => h2' z z'.1) (fun u hu h12 h9 eu => ?_) hM
    have h8 : ¬ u = 8 := fun z => c (by rw [eu, z]; rfl)
    rcases hP with z | z
    · rw [z]; exact (by decide +kernel : ∀ u, u ≤ 12 → ¬ u = 12 → ¬ u = 9 → ¬ u = 8 → s_X3_goesTo 0 (nI 1) (nI u) = -1) u hu h12 h9 h8
    · rw [z]; exact (by decide +kernel : ∀ u, u ≤ 12 → ¬ u = 12 → ¬ u = 9 → ¬ u = 8 → s_X3_goesTo 0 (nI 2) (nI u) = -1) u hu h12 h9 h8
end JJ
end PRS
