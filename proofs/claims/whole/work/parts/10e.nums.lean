/-! ===== numbers that the walks lean on ===== -/
theorem vp_div32 {j : Nat} (h : j < 256) : vp_in (nI j / 32) 8 := by
  have e : nI j / 32 = nI (j / 32) := pk_div (a := j) (d := 32) (by omega) (by omega) (by omega)
  rw [e]
  exact vp_in_nI (by omega) (by omega)
theorem i_step (y : Int32) (j : Nat) : y - nI j + (-1) = y - nI (j + 1) := by
  rw [nI_succ]
  grind
theorem dn_eq {x : Int32} {j : Nat} (h : x = 255 - nI j) (hj : j < 256) : x = nI (255 - j) := by
  rw [h]
  exact pk_sub (a := 255) (b := j) (by omega)
theorem dn_pos {x : Int32} {j : Nat} (h : x = 255 - nI j) (hj : j < 256) : ¬ x < 0 := by
  rw [dn_eq h hj]
  exact nI_pos (by omega)
theorem dn_step {x : Int32} {j : Nat} (h : x = 255 - nI j) : x + (-1) = 255 - nI (j + 1) := by
  rw [h]
  exact i_step _ _
def sm_ok (x : Int32) : Prop := x.toNatClampNeg < 2 ^ 20 ∧ x = nI x.toNatClampNeg
theorem sm_of {x : Int32} {n : Nat} (h : vp_in x n) (hn : n ≤ 2 ^ 20) : sm_ok x := by
  obtain ⟨j, hj, rfl⟩ := vp_in_of h (by omega)
  unfold sm_ok
  rw [nI_clamp (by omega)]
  exact ⟨by omega, rfl⟩
theorem sm_lt {x : Int32} (h : sm_ok x) : x < nI (x.toNatClampNeg + 1) := by
  obtain ⟨h1, h2⟩ := h
  have h3 := nI_lt (a := x.toNatClampNeg) (b := x.toNatClampNeg + 1) (by omega) (by omega)
  rw [← h2] at h3
  exact h3
theorem sm_nlt {x : Int32} {j : Nat} (h : sm_ok x) (hj : j < x.toNatClampNeg + 1) : ¬ x < nI j := by
  obtain ⟨h1, h2⟩ := h
  have h3 := nI_nlt (a := x.toNatClampNeg) (b := j) (by omega) (by omega)
  rw [← h2] at h3
  exact h3
theorem sm_le {x : Int32} (h : vp_in x 256) : x.toNatClampNeg ≤ 255 := by
  obtain ⟨j, hj, rfl⟩ := vp_in_of h (by omega)
  rw [nI_clamp (by omega)]
  omega
def ty_ok (n : Int32) : Prop := 1 ≤ n.toNatClampNeg ∧ n.toNatClampNeg ≤ 8 ∧ n = nI n.toNatClampNeg
theorem ty_int {n : Int32} (h1 : 1 ≤ n.toInt) (h2 : n.toInt ≤ 8) : ty_ok n := by
  obtain ⟨j, hj, rfl⟩ := nI_of (x := n) (by rw [Int32.lt_iff_toInt_lt]; have : (0 : Int32).toInt = 0 := rfl; omega)
  rw [nI_toInt hj] at h1 h2
  unfold ty_ok
  rw [nI_clamp hj]
  exact ⟨by omega, by omega, rfl⟩
theorem ty_of {n : Int32} (h1 : ¬ n < 1) (h2 : n ≤ 8) : ty_ok n := by
  rw [Int32.lt_iff_toInt_lt] at h1
  rw [Int32.le_iff_toInt_le] at h2
  have e1 : (1 : Int32).toInt = 1 := rfl
  have e8 : (8 : Int32).toInt = 8 := rfl
  exact ty_int (by omega) (by omega)
theorem ty_ofM {n : Int32} (h : ¬ s_X3_in n.toInt64 1 8 = 0) : ty_ok n := by
  rw [s_in_iff, Int64.le_iff_toInt_le, Int64.le_iff_toInt_le, Int32.toInt_toInt64] at h
  have e1 : (1 : Int64).toInt = 1 := rfl
  have e8 : (8 : Int64).toInt = 8 := rfl
  exact ty_int (by omega) (by omega)
theorem ty_room {n : Int32} {t : Nat} (hnn : ty_ok n) (ht : t ≤ 300) (h : (nI t + n) ≤ 300) : t + n.toNatClampNeg ≤ 300 := by
  obtain ⟨h1, h2, h3⟩ := hnn
  generalize n.toNatClampNeg = a at *
  subst h3
  rw [nI_add] at h
  exact (nI_leI (a := t + a) (b := 300) (by omega) (by omega)).mp h
theorem ty_neg {n k : Int32} (hnn : ty_ok n) (h : k = n - 1 - nI n.toNatClampNeg) : k < 0 := by
  obtain ⟨h1, h2, h3⟩ := hnn
  generalize n.toNatClampNeg = a at *
  subst h3
  subst h
  rcases (show a = 1 ∨ a = 2 ∨ a = 3 ∨ a = 4 ∨ a = 5 ∨ a = 6 ∨ a = 7 ∨ a = 8 by omega) with q | q | q | q | q | q | q | q <;> subst q <;> decide
theorem ty_eq {n k : Int32} {j : Nat} (hnn : ty_ok n) (h : k = n - 1 - nI j) (hj : j < n.toNatClampNeg) : k = nI (n.toNatClampNeg - 1 - j) := by
  obtain ⟨h1, h2, h3⟩ := hnn
  generalize n.toNatClampNeg = a at *
  subst h3
  subst h
  have e : nI a - 1 = nI (a - 1) := pk_sub (a := a) (b := 1) h1
  rw [e]
  exact pk_sub (by omega)
theorem ty_pos {n k : Int32} {j : Nat} (hnn : ty_ok n) (h : k = n - 1 - nI j) (hj : j < n.toNatClampNeg) : ¬ k < 0 := by
  rw [ty_eq hnn h hj]
  exact nI_pos (by have := hnn.2.1; omega)
theorem ty_step {n k : Int32} {j : Nat} (h : k = n - 1 - nI j) : k + (-1) = n - 1 - nI (j + 1) := by
  rw [h]
  exact i_step _ _
theorem sh_neg {n k : Int32} (hnn : ty_ok n) (h : k = 8 * (n - 1 - nI n.toNatClampNeg)) : k < 0 := by
  obtain ⟨h1, h2, h3⟩ := hnn
  generalize n.toNatClampNeg = a at *
  subst h3
  subst h
  rcases (show a = 1 ∨ a = 2 ∨ a = 3 ∨ a = 4 ∨ a = 5 ∨ a = 6 ∨ a = 7 ∨ a = 8 by omega) with q | q | q | q | q | q | q | q <;> subst q <;> decide
theorem sh_pos {n k : Int32} {j : Nat} (hnn : ty_ok n) (h : k = 8 * (n - 1 - nI j)) (hj : j < n.toNatClampNeg) : ¬ k < 0 := by
  rw [h, ty_eq hnn rfl hj]
  have h8 := hnn.2.1
  have e : 8 * nI (n.toNatClampNeg - 1 - j) = nI (8 * (n.toNatClampNeg - 1 - j)) := pk_mul 8 _
  rw [e]
  exact nI_pos (by omega)
theorem sh_step {n k : Int32} {j : Nat} (h : k = 8 * (n - 1 - nI j)) : k + (-8) = 8 * (n - 1 - nI (j + 1)) := by
  rw [h, nI_succ]
  grind
theorem nI_or (a b : Nat) : nI a ||| nI b = nI (a ||| b) := by
  apply Int32.toBitVec_inj.mp
  show (BitVec.ofNat 32 a ||| BitVec.ofNat 32 b) = BitVec.ofNat 32 (a ||| b)
  rw [BitVec.ofNat_or]
def sw_ok (a f : Int32) : Prop := vp_in a 8 ∧ vp_in f 256
def sw_in (x : Int32) (j : Nat) : Prop := ∃ v : Nat, x = nI v ∧ j ≤ v ∧ v < 512
theorem one_shl : ∀ u : Nat, u < 16 → (1 : Int32) <<< (nI u &&& 31) = nI (2 ^ u) := by decide
theorem sw_need {a f : Int32} (h : sw_ok a f) : ∃ w : Nat, (f ||| (1 <<< (a &&& 31))) = nI w ∧ w < 256 := by
  obtain ⟨h1, h2⟩ := h
  obtain ⟨u, hu, rfl⟩ := vp_in_of h1 (by omega)
  obtain ⟨v, hv, rfl⟩ := vp_in_of h2 (by omega)
  rw [one_shl u (by omega), nI_or]
  refine ⟨_, rfl, ?_⟩
  exact Nat.or_lt_two_pow (n := 8) hv (Nat.pow_lt_pow_right (by omega) (by omega))
theorem sw_init {a f : Int32} (h : sw_ok a f) : sw_in (f ||| (1 <<< (a &&& 31))) 0 := by
  obtain ⟨w, e, hw⟩ := sw_need h
  exact ⟨w, e, by omega, by omega⟩
theorem sw_big {x : Int32} (h : sw_in x 256) : 255 < x := by
  obtain ⟨v, rfl, h1, h2⟩ := h
  exact nI_lt (a := 255) (b := v) (by omega) (by omega)
theorem sw_step {a f x : Int32} {j : Nat} (hs : sw_ok a f) (h : sw_in x j) (c : ¬ 255 < x) : sw_in ((x + (1 : Int32)) ||| (f ||| ((1 : Int32) <<< (a &&& 31)))) (j + 1) := by
  obtain ⟨w, e, hw⟩ := sw_need hs
  obtain ⟨v, rfl, h1, h2⟩ := h
  have hv : v ≤ 255 := by
    rcases Nat.lt_or_ge 255 v with q | q
    · exact absurd (nI_lt (a := 255) (b := v) q (by omega)) c
    · exact q
  rw [e, nI_1, nI_or]
  refine ⟨_, rfl, ?_, ?_⟩
  · have := Nat.left_le_or (n := v + 1) (m := w)
    omega
  · exact Nat.or_lt_two_pow (n := 9) (by omega) (by omega)
theorem vp_or {x : Int32} {j : Nat} (h : vp_in x 256) (hj : j < 256) : vp_in (x ||| nI j) 256 := by
  obtain ⟨v, hv, rfl⟩ := vp_in_of h (by omega)
  rw [nI_or]
  exact vp_in_nI (Nat.or_lt_two_pow (n := 8) hv hj) (by omega)
theorem vp_set {x : Int32} (h : ¬ s_X2_isSet x = 0) : vp_in x 256 := by
  unfold s_X2_isSet at h
  by_cases h0 : x < 0
  · rw [if_pos h0] at h; exact absurd rfl h
  · rw [if_neg h0] at h
    by_cases h1 : (255 : Int32) < x
    · rw [if_pos h1] at h; exact absurd rfl h
    · rw [vp_in_iff]
      rw [Int32.lt_iff_toInt_lt] at h0 h1
      have e0 : (0 : Int32).toInt = 0 := rfl
      have e1 : (255 : Int32).toInt = 255 := rfl
      omega
theorem vp_sent {x : Int32} (h : ¬ s_X2_isSentence x = 0) : vp_in x 8 := by
  unfold s_X2_isSentence at h
  by_cases h0 : x < 0
  · rw [if_pos h0] at h; exact absurd rfl h
  · rw [if_neg h0] at h
    by_cases h1 : (8 : Int32) ≤ x
    · rw [if_pos h1] at h; exact absurd rfl h
    · exact vp_of rfl h0 h1
theorem nI_m1 {r : Nat} (h : 1 ≤ r) : nI r - 1 = nI (r - 1) := pk_sub (a := r) (b := 1) h
/-! ===== what grows() leaves in its rows does not hang on what was there ===== -/
theorem itr_rel {α β : Type} (R : α → β → Prop) {f : Nat → α → α} {g : Nat → β → β} (h : ∀ k a b, R a b → R (f k a) (g k b)) {a : α} {b : β} (h0 : R a b) : ∀ n : Nat, R (itr f a n) (itr g b n)
  | 0 => h0
  | n + 1 => h n _ _ (itr_rel R h h0 n)
def E8 (x y : Int32 × (Nat → Int32) × (Nat → Int32)) : Prop := x.1 = y.1 ∧ (∀ i, i < 8 → x.2.1 i = y.2.1 i) ∧ ∀ i, i < 8 → x.2.2 i = y.2.2 i
theorem grows_66_rel (hd fi un : Nat → Int32) (sme against came : Int32) (r k : Nat) (x y : Int32 × (Nat → Int32) × (Nat → Int32)) (h : E8 x y) : E8 (f_X3_grows_66 hd fi un sme against came r k x) (f_X3_grows_66 hd fi un sme against came r k y) := by
  obtain ⟨x1, x2, x3⟩ := x
  obtain ⟨y1, y2, y3⟩ := y
  obtain ⟨h1, h2, h3⟩ := h
  dsimp only at h1 h2 h3
  subst h1
  unfold f_X3_grows_66
  dsimp only
  split <;> try exact ⟨rfl, h2, h3⟩
  split <;> try exact ⟨rfl, h2, h3⟩
  split <;> try exact ⟨rfl, h2, h3⟩
  split <;> try exact ⟨rfl, h2, h3⟩
  split <;> try exact ⟨rfl, h2, h3⟩
  refine ⟨rfl, fun i hi => ?_, fun i hi => ?_⟩
  · show upd x2 _ _ i = upd y2 _ _ i
    unfold upd
    split
    · rfl
    · exact h2 i hi
  · show upd x3 _ _ i = upd y3 _ _ i
    unfold upd
    split
    · rfl
    · exact h3 i hi
theorem grows_52_rel (n : Nat) (hd fi un : Nat → Int32) (sme against : Int32) (k : Nat) (x y : Int32 × (Nat → Int32) × (Nat → Int32)) (h : E8 x y) : E8 (f_X3_grows_52 n hd fi un sme against k x) (f_X3_grows_52 n hd fi un sme against k y) := by
  obtain ⟨x1, x2, x3⟩ := x
  obtain ⟨y1, y2, y3⟩ := y
  have h1 : x1 = y1 := h.1
  subst h1
  exact itr_rel E8 (fun k a b => grows_66_rel hd fi un sme against x1 _ k a b) h n
theorem grows_3_at (facts : Int32) (s : (Nat → Int32) × (Nat → Int32)) : ∀ (k i : Nat), i < k → (itr (f_X3_grows_3 facts) s k).1 i = (if (s_X3_has facts (nI i)) = 0 then (-1) else 0) ∧ (itr (f_X3_grows_3 facts) s k).2 i = -9
  | 0, i, h => absurd h (Nat.not_lt_zero i)
  | k + 1, i, h => by
    have ih := grows_3_at facts s k i
    rw [itr_succ]
    generalize itr (f_X3_grows_3 facts) s k = w at ih ⊢
    obtain ⟨w1, w2⟩ := w
    unfold f_X3_grows_3
    dsimp only
    by_cases hi : i = k
    · subst hi
      by_cases c : s_X3_has facts (nI i) = 0
      · rw [if_pos c, if_pos c]
        exact ⟨if_pos rfl, if_pos rfl⟩
      · rw [if_neg c, if_neg c]
        exact ⟨if_pos rfl, if_pos rfl⟩
    · have ih2 := ih (by omega)
      by_cases c : s_X3_has facts (nI k) = 0
      · rw [if_pos c]
        exact ⟨(if_neg hi).trans ih2.1, (if_neg hi).trans ih2.2⟩
      · rw [if_neg c]
        exact ⟨(if_neg hi).trans ih2.1, (if_neg hi).trans ih2.2⟩
theorem grows_indep (n : Nat) (hd fi un rd bb rd' bb' : Nat → Int32) (facts sme against : Int32) : E8 (s_X3_grows n hd fi un rd bb facts sme against) (s_X3_grows n hd fi un rd' bb' facts sme against) := by
  unfold s_X3_grows
  have h1 := grows_3_at facts (rd, bb) 8
  have h2 := grows_3_at facts (rd', bb') 8
  generalize itr (f_X3_grows_3 facts) (rd, bb) 8 = w at h1 ⊢
  generalize itr (f_X3_grows_3 facts) (rd', bb') 8 = w' at h2 ⊢
  obtain ⟨w1, w2⟩ := w
  obtain ⟨w3, w4⟩ := w'
  exact itr_rel E8 (fun k a b => grows_52_rel n hd fi un sme against k a b) (a := (facts, w1, w2)) (b := (facts, w3, w4)) ⟨rfl, fun i hi => ((h1 i hi).1).trans ((h2 i hi).1).symm, fun i hi => ((h1 i hi).2).trans ((h2 i hi).2).symm⟩ 8
def gRd (n : Nat) (hd fi un : Nat → Int32) (facts sme against a : Int32) : Int32 := (s_X3_grows n hd fi un (fun _ => 0) (fun _ => 0) facts sme against).2.1 a.toNatClampNeg
def gBy (n : Nat) (hd fi un : Nat → Int32) (facts sme against a : Int32) : Int32 := (s_X3_grows n hd fi un (fun _ => 0) (fun _ => 0) facts sme against).2.2 a.toNatClampNeg
theorem vp_clamp {a : Int32} {n : Nat} (h : vp_in a n) (hn : n < 2 ^ 31) : a.toNatClampNeg < n := by
  obtain ⟨j, hj, rfl⟩ := vp_in_of h hn
  rw [nI_clamp (by omega)]
  exact hj
theorem gRd_eq {n : Nat} {hd fi un rd bb rd' bb' : Nat → Int32} {facts sme against a r : Int32} (he : (r, rd', bb') = s_X3_grows n hd fi un rd bb facts sme against) (ha : vp_in a 8) : rd' a.toNatClampNeg = gRd n hd fi un facts sme against a := by
  have h := (grows_indep n hd fi un rd bb (fun _ => 0) (fun _ => 0) facts sme against).2.1 a.toNatClampNeg (vp_clamp ha (by omega))
  rw [← he] at h
  exact h
theorem gBy_eq {n : Nat} {hd fi un rd bb rd' bb' : Nat → Int32} {facts sme against a r : Int32} (he : (r, rd', bb') = s_X3_grows n hd fi un rd bb facts sme against) (ha : vp_in a 8) : bb' a.toNatClampNeg = gBy n hd fi un facts sme against a := by
  have h := (grows_indep n hd fi un rd bb (fun _ => 0) (fun _ => 0) facts sme against).2.2 a.toNatClampNeg (vp_clamp ha (by omega))
  rw [← he] at h
  exact h
