/-! ===== words: the class's in base 256, the reference's in base 32 ===== -/
def Fw : Nat → Nat → Nat
  | 0, _ => 0
  | m + 1, v => if v = 0 then 0 else 256 * Fw m (v / 32) + (v % 32 + 96)
def Gw : Nat → Nat → Nat
  | 0, _ => 0
  | m + 1, w => if w = 0 then 0 else 32 * Gw m (w / 256) + (w % 256 - 96)
theorem Fw_0 (m : Nat) : Fw m 0 = 0 := by
  cases m
  · rfl
  · unfold Fw; rw [if_pos rfl]
theorem Gw_0 (m : Nat) : Gw m 0 = 0 := by
  cases m
  · rfl
  · unfold Gw; rw [if_pos rfl]
theorem Fw_s {m v d : Nat} (h1 : 1 ≤ d) (h2 : d < 32) : Fw (m + 1) (32 * v + d) = 256 * Fw m v + (d + 96) := by
  rw [Fw, if_neg (by omega), show (32 * v + d) / 32 = v by omega, show (32 * v + d) % 32 = d by omega]
theorem Gw_s {m w c : Nat} (h1 : 97 ≤ c) (h2 : c < 256) : Gw (m + 1) (256 * w + c) = 32 * Gw m w + (c - 96) := by
  rw [Gw, if_neg (by omega), show (256 * w + c) / 256 = w by omega, show (256 * w + c) % 256 = c by omega]
def Bk (k i b : Nat) : Prop := (i < k → 97 ≤ b ∧ b ≤ 122) ∧ (k ≤ i → b = 0)
theorem Bk_up {k i b : Nat} (h : Bk k i b) : Bk (k + 1) (i + 1) b := ⟨fun z => h.1 (by omega), fun z => h.2 (by omega)⟩
theorem Bk_le {k i b : Nat} (h : Bk k i b) : b ≤ 122 := by
  rcases Nat.lt_or_ge i k with z | z
  · exact (h.1 z).2
  · rw [h.2 z]; omega
def By8 (k w : Nat) : Prop := ∃ b0 b1 b2 b3 b4 b5 b6 b7 : Nat, w = b0 + 256 * b1 + 65536 * b2 + 16777216 * b3 + 4294967296 * b4 + 1099511627776 * b5 + 281474976710656 * b6 + 72057594037927936 * b7 ∧ Bk k 0 b0 ∧ Bk k 1 b1 ∧ Bk k 2 b2 ∧ Bk k 3 b3 ∧ Bk k 4 b4 ∧ Bk k 5 b5 ∧ Bk k 6 b6 ∧ Bk k 7 b7
theorem By8_0 : By8 0 0 := by
  have z : ∀ i, Bk 0 i 0 := fun i => ⟨fun h => absurd h (Nat.not_lt_zero i), fun _ => rfl⟩
  exact ⟨0, 0, 0, 0, 0, 0, 0, 0, by omega, z 0, z 1, z 2, z 3, z 4, z 5, z 6, z 7⟩
theorem By8_step {k w c : Nat} (h : By8 k w) (h1 : 97 ≤ c) (h2 : c ≤ 122) : By8 (k + 1) ((256 * w + c) % 18446744073709551616) := by
  obtain ⟨b0, b1, b2, b3, b4, b5, b6, b7, e, g0, g1, g2, g3, g4, g5, g6, g7⟩ := h
  refine ⟨c, b0, b1, b2, b3, b4, b5, b6, ?_, ⟨fun _ => ⟨h1, h2⟩, fun z => absurd z (by omega)⟩, Bk_up g0, Bk_up g1, Bk_up g2, Bk_up g3, Bk_up g4, Bk_up g5, Bk_up g6⟩
  have l0 := Bk_le g0
  have l1 := Bk_le g1
  have l2 := Bk_le g2
  have l3 := Bk_le g3
  have l4 := Bk_le g4
  have l5 := Bk_le g5
  have l6 := Bk_le g6
  have l7 := Bk_le g7
  clear g0 g1 g2 g3 g4 g5 g6 g7
  omega
theorem By8_lt {k w : Nat} (h : By8 k w) : w < 9223372036854775808 := by
  obtain ⟨b0, b1, b2, b3, b4, b5, b6, b7, e, g0, g1, g2, g3, g4, g5, g6, g7⟩ := h
  have l0 := Bk_le g0
  have l1 := Bk_le g1
  have l2 := Bk_le g2
  have l3 := Bk_le g3
  have l4 := Bk_le g4
  have l5 := Bk_le g5
  have l6 := Bk_le g6
  have l7 := Bk_le g7
  clear g0 g1 g2 g3 g4 g5 g6 g7
  omega
theorem By8_big {k w : Nat} (hk : 7 ≤ k) (h : By8 k w) : 27303072740933632 ≤ w := by
  obtain ⟨b0, b1, b2, b3, b4, b5, b6, b7, e, g0, g1, g2, g3, g4, g5, g6, g7⟩ := h
  have l6 := g6.1 (by omega)
  clear g0 g1 g2 g3 g4 g5 g6 g7
  omega
theorem By8_small {k w : Nat} (hk : k ≤ 6) (h : By8 k w) : w < 281474976710656 := by
  obtain ⟨b0, b1, b2, b3, b4, b5, b6, b7, e, g0, g1, g2, g3, g4, g5, g6, g7⟩ := h
  have l0 := Bk_le g0
  have l1 := Bk_le g1
  have l2 := Bk_le g2
  have l3 := Bk_le g3
  have l4 := Bk_le g4
  have l5 := Bk_le g5
  have l6 := g6.2 hk
  have l7 := g7.2 (by omega)
  clear g0 g1 g2 g3 g4 g5 g6 g7
  omega
def Wk (k w v : Nat) : Prop := By8 k w ∧ (k ≤ 6 → ∀ m, k ≤ m → Fw m v = w ∧ Gw m w = v) ∧ (k ≤ 7 → v < 32 ^ k ∧ (1 ≤ k → 32 ^ (k - 1) ≤ v)) ∧ (7 ≤ k → 1073741824 ≤ v ∧ v < 34359738368)
theorem Wk_0 : Wk 0 0 0 := ⟨By8_0, fun _ m _ => ⟨Fw_0 m, Gw_0 m⟩, fun _ => ⟨by decide, fun z => absurd z (by omega)⟩, fun z => absurd z (by omega)⟩
theorem Wk_step {k w v c : Nat} (h : Wk k w v) (h1 : 97 ≤ c) (h2 : c ≤ 122) : Wk (k + 1) ((256 * w + c) % 18446744073709551616) (if 7 ≤ k then v else 32 * v + (c - 96)) := by
  obtain ⟨a1, a2, a3, a4⟩ := h
  by_cases h7 : 7 ≤ k
  · rw [if_pos h7]
    exact ⟨By8_step a1 h1 h2, fun z => absurd z (by omega), fun z => absurd z (by omega), fun _ => a4 h7⟩
  · rw [if_neg h7]
    have b3 : v < 32 ^ k ∧ (1 ≤ k → 32 ^ (k - 1) ≤ v) := a3 (by omega)
    have c3 : 32 * v + (c - 96) < 32 ^ (k + 1) ∧ 32 ^ k ≤ 32 * v + (c - 96) := by
      have e : 32 ^ (k + 1) = 32 * 32 ^ k := by rw [Nat.pow_succ, Nat.mul_comm]
      constructor
      · omega
      · cases k with
        | zero => show 1 ≤ 32 * v + (c - 96); omega
        | succ k =>
          have e2 : 32 ^ (k + 1) = 32 * 32 ^ k := by rw [Nat.pow_succ, Nat.mul_comm]
          have := b3.2 (by omega)
          rw [Nat.add_sub_cancel] at this
          omega
    refine ⟨By8_step a1 h1 h2, ?_, fun _ => ⟨c3.1, fun _ => ?_⟩, ?_⟩
    · intro hk m hm
      have hs := By8_small (by omega) a1
      rw [Nat.mod_eq_of_lt (by omega)]
      cases m with
      | zero => omega
      | succ m =>
        have ih := a2 (by omega) m (by omega)
        rw [Fw_s (by omega) (by omega), Gw_s h1 (by omega), ih.1, ih.2]
        exact ⟨by omega, rfl⟩
    · rw [Nat.add_sub_cancel]; exact c3.2
    · intro z
      have e : k = 6 := by omega
      rw [e] at c3
      have e6 : (32 : Nat) ^ 6 = 1073741824 := by decide
      have e7 : (32 : Nat) ^ (6 + 1) = 34359738368 := by decide
      rw [e6, e7] at c3
      exact ⟨c3.2, c3.1⟩
theorem lw_tn {n : Nat} : (lN n).toBitVec.toNat = n % 18446744073709551616 := rfl
theorem lw_mod (n : Nat) : lN (n % 18446744073709551616) = lN n := by
  apply Int64.toBitVec_inj.mp
  apply BitVec.eq_of_toNat_eq
  rw [lw_tn, lw_tn, Nat.mod_mod]
theorem lw_step {w c : Nat} (hc : c < 256) : ((lN w) <<< (((8 : Int32).toInt64) &&& 63)) ||| ((nI c).toInt64) = lN ((256 * w + c) % 18446744073709551616) := by
  rw [lw_mod, nI_l (by omega)]
  apply Int64.toBitVec_inj.mp
  apply BitVec.eq_of_toNat_eq
  rw [Int64.toBitVec_or, BitVec.toNat_or]
  have hs : ((((8 : Int32).toInt64) &&& 63).toBitVec.smod 64).toNat = 8 := by decide +kernel
  have e : ((lN w) <<< (((8 : Int32).toInt64) &&& 63)).toBitVec.toNat = (w % 18446744073709551616) * 2 ^ 8 % 18446744073709551616 := by
    show ((lN w).toBitVec <<< ((((8 : Int32).toInt64) &&& 63).toBitVec.smod 64).toNat).toNat = _
    rw [hs, BitVec.toNat_shiftLeft, Nat.shiftLeft_eq, lw_tn]
  rw [e, lw_tn, lw_tn]
  have e1 : (w % 18446744073709551616) * 2 ^ 8 % 18446744073709551616 = (w % 72057594037927936) * 2 ^ 8 := by omega
  rw [e1, Nat.mod_eq_of_lt (show c < 18446744073709551616 by omega), ← Nat.shiftLeft_eq, ← Nat.shiftLeft_add_eq_or_of_lt (by omega), Nat.shiftLeft_eq]
  omega
def tokM (word : Int64) : Int32 := if 0 < (lg_cmp word 8) then (if (lg_cmp word 294) = 0 then 8 else (if (lg_cmp word 719722099) = 0 then 9 else (if (lg_cmp word 14866610) = 0 then 10 else (if (lg_cmp word 13369) = 0 then 11 else 13)))) else ((word : Int64).toInt32) - 1
theorem lw_eq {a b : Nat} {x : Int64} (ha : a < 9223372036854775808) (hx : x = lN b) (hb : b < 9223372036854775808) : lg_cmp (lN a) x = 0 ↔ a = b := by
  rw [lg_cmp_eq, hx]
  exact pk_lEQ ha hb
theorem tokC_n {w : Nat} (hw : w < 9223372036854775808) : s_X1_tokenOf (lN w) = if 97 ≤ w ∧ w < 105 then nI (w - 97) else if w = 26982 then 8 else if w = 129117125440371 then 9 else if w = 474148660594 then 10 else if w = 7168377 then 11 else 14 := by
  unfold s_X1_tokenOf
  have c1 : lg_cmp (lN w) 97 < 0 ↔ w < 97 := by
    rw [lg_cmp_lt]
    exact pk_lLT hw (b := 97) (by omega)
  have c2 : 0 ≤ lg_cmp (lN w) 105 ↔ 105 ≤ w := by
    rw [lg_cmp_ge]
    exact pk_lLE (a := 105) (by omega) hw
  have d1 := lw_eq (a := w) (x := 26982) (b := 26982) hw rfl (by omega)
  have d2 := lw_eq (a := w) (x := 129117125440371) (b := 129117125440371) hw rfl (by omega)
  have d3 := lw_eq (a := w) (x := 474148660594) (b := 474148660594) hw rfl (by omega)
  have d4 := lw_eq (a := w) (x := 7168377) (b := 7168377) hw rfl (by omega)
  by_cases q1 : w < 97
  · rw [if_pos (c1.mpr q1), if_neg (show ¬ (97 ≤ w ∧ w < 105) by omega)]
    simp only [d1, d2, d3, d4]
  · rw [if_neg (fun z => q1 (c1.mp z))]
    by_cases q2 : 105 ≤ w
    · rw [if_pos (c2.mpr q2), if_neg (show ¬ (97 ≤ w ∧ w < 105) by omega)]
      simp only [d1, d2, d3, d4]
    · rw [if_neg (fun z => q2 (c2.mp z)), if_pos (show 97 ≤ w ∧ w < 105 by omega)]
      rw [show (97 : Int64) = lN 97 from rfl, lN_sub (by omega), lN_i]
theorem tokM_n {v : Nat} (hv : v < 9223372036854775808) (h0 : 1 ≤ v) : tokM (lN v) = if v ≤ 8 then nI (v - 1) else if v = 294 then 8 else if v = 719722099 then 9 else if v = 14866610 then 10 else if v = 13369 then 11 else 13 := by
  unfold tokM
  have c1 : 0 < lg_cmp (lN v) 8 ↔ 8 < v := by
    rw [lg_cmp_gt]
    exact pk_lLT (a := 8) (by omega) hv
  have d1 := lw_eq (a := v) (x := 294) (b := 294) hv rfl (by omega)
  have d2 := lw_eq (a := v) (x := 719722099) (b := 719722099) hv rfl (by omega)
  have d3 := lw_eq (a := v) (x := 14866610) (b := 14866610) hv rfl (by omega)
  have d4 := lw_eq (a := v) (x := 13369) (b := 13369) hv rfl (by omega)
  by_cases q1 : 8 < v
  · rw [if_pos (c1.mpr q1), if_neg (show ¬ v ≤ 8 by omega)]
    simp only [d1, d2, d3, d4]
  · rw [if_neg (fun z => q1 (c1.mp z)), if_pos (show v ≤ 8 by omega), lN_i]
    exact nI_m1 h0
def TK (a b : Int32) : Prop := (∃ u : Nat, u ≤ 12 ∧ a = nI u ∧ b = nI u) ∨ (a = 14 ∧ b = 13)
theorem tok_word {k w v : Nat} (h : Wk k w v) (h0 : 1 ≤ k) : TK (s_X1_tokenOf (lN w)) (tokM (lN v)) := by
  obtain ⟨a1, a2, a3, a4⟩ := h
  have hw := By8_lt a1
  by_cases hk : k ≤ 6
  · have hF := (a2 hk 7 (by omega)).1
    have hG := (a2 hk 7 (by omega)).2
    have h3 := a3 (by omega)
    have hp : 1 ≤ 32 ^ (k - 1) := Nat.pow_pos (by omega)
    have hv1 : 1 ≤ v := Nat.le_trans hp (h3.2 h0)
    have hv2 : v < 9223372036854775808 := by
      have : 32 ^ k ≤ 32 ^ 6 := Nat.pow_le_pow_right (by omega) hk
      omega
    rw [tokC_n hw, tokM_n hv2 hv1]
    by_cases q : v ≤ 8
    · have e : w = 96 + v := by
        rw [← hF]
        exact (show ∀ v : Nat, v ≤ 8 → 1 ≤ v → Fw 7 v = 96 + v by decide +kernel) v q hv1
      rw [if_pos q, if_pos (by omega)]
      exact Or.inl ⟨v - 1, by omega, by rw [e]; exact congrArg nI (by omega), rfl⟩
    · have e : ¬ (97 ≤ w ∧ w < 105) := by
        intro z
        have : Gw 7 w = w - 96 := (show ∀ w : Nat, w < 105 → 97 ≤ w → Gw 7 w = w - 96 by decide +kernel) w z.2 z.1
        omega
      rw [if_neg q, if_neg e]
      have key : ∀ a b : Nat, Fw 7 b = a → Gw 7 a = b → (w = a ↔ v = b) := fun a b z1 z2 => ⟨fun z => by rw [← hG, z, z2], fun z => by rw [← hF, z, z1]⟩
      have k1 := key 26982 294 (by decide +kernel) (by decide +kernel)
      have k2 := key 129117125440371 719722099 (by decide +kernel) (by decide +kernel)
      have k3 := key 474148660594 14866610 (by decide +kernel) (by decide +kernel)
      have k4 := key 7168377 13369 (by decide +kernel) (by decide +kernel)
      by_cases q1 : v = 294
      · rw [if_pos q1, if_pos (k1.mpr q1)]; exact Or.inl ⟨8, by omega, rfl, rfl⟩
      rw [if_neg q1, if_neg (fun z => q1 (k1.mp z))]
      by_cases q2 : v = 719722099
      · rw [if_pos q2, if_pos (k2.mpr q2)]; exact Or.inl ⟨9, by omega, rfl, rfl⟩
      rw [if_neg q2, if_neg (fun z => q2 (k2.mp z))]
      by_cases q3 : v = 14866610
      · rw [if_pos q3, if_pos (k3.mpr q3)]; exact Or.inl ⟨10, by omega, rfl, rfl⟩
      rw [if_neg q3, if_neg (fun z => q3 (k3.mp z))]
      by_cases q4 : v = 13369
      · rw [if_pos q4, if_pos (k4.mpr q4)]; exact Or.inl ⟨11, by omega, rfl, rfl⟩
      rw [if_neg q4, if_neg (fun z => q4 (k4.mp z))]
      exact Or.inr ⟨rfl, rfl⟩
  · have h4 := a4 (by omega)
    have hb := By8_big (by omega) a1
    rw [tokC_n hw, tokM_n (by omega) (by omega), if_neg (by omega), if_neg (by omega), if_neg (by omega), if_neg (by omega), if_neg (by omega), if_neg (by omega), if_neg (by omega), if_neg (by omega), if_neg (by omega), if_neg (by omega)]
    exact Or.inr ⟨rfl, rfl⟩
