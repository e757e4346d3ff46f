/-! ===== Int32 by its bits: bt x i ===== -/
def bt (x : Int32) (i : Nat) : Bool := x.toBitVec.getLsbD i
theorem b_ext {x y : Int32} (h : ∀ i, i < 32 → bt x i = bt y i) : x = y := Int32.toBitVec_inj.mp (BitVec.eq_of_getLsbD_eq (fun i hi => h i hi))
theorem b_or (x y : Int32) (i : Nat) : bt (x ||| y) i = (bt x i || bt y i) := by unfold bt; rw [Int32.toBitVec_or, BitVec.getLsbD_or]
theorem b_and (x y : Int32) (i : Nat) : bt (x &&& y) i = (bt x i && bt y i) := by unfold bt; rw [Int32.toBitVec_and, BitVec.getLsbD_and]
theorem b_xor (x y : Int32) (i : Nat) : bt (x ^^^ y) i = (bt x i ^^ bt y i) := by unfold bt; rw [Int32.toBitVec_xor, BitVec.getLsbD_xor]
theorem b_big {x : Int32} {i : Nat} (h : 32 ≤ i) : bt x i = false := BitVec.getLsbD_of_ge _ _ h
theorem b_255 (i : Nat) : bt 255 i = decide (i < 8) := by
  rcases Nat.lt_or_ge i 32 with h | h
  · exact (by decide +kernel : ∀ i, i < 32 → bt 255 i = decide (i < 8)) i h
  · rw [b_big h, decide_eq_false (by omega)]
theorem b_65535 (i : Nat) : bt 65535 i = decide (i < 16) := by
  rcases Nat.lt_or_ge i 32 with h | h
  · exact (by decide +kernel : ∀ i, i < 32 → bt 65535 i = decide (i < 16)) i h
  · rw [b_big h, decide_eq_false (by omega)]
theorem b_m1 : ∀ i, i < 32 → bt (-1) i = true := by decide +kernel
theorem b_0 (i : Nat) : bt 0 i = false := BitVec.getLsbD_zero
theorem s_l : ∀ n, n < 32 → ((nI n &&& 31).toBitVec.smod 32).toNat = n := by decide +kernel
theorem s_u : ∀ n, n < 32 → (((nI n).toUInt32 &&& Int32.toUInt32 31).toBitVec % 32).toNat = n := by decide +kernel
theorem b_shl (n : Nat) (hn : n < 32) (x : Int32) {i : Nat} (hi : i < 32) : bt (x <<< (nI n &&& 31)) i = (decide (n ≤ i) && bt x (i - n)) := by
  unfold bt
  rw [Int32.toBitVec_shiftLeft]
  show (x.toBitVec <<< ((nI n &&& 31).toBitVec.smod 32).toNat).getLsbD i = _
  rw [s_l n hn, BitVec.getLsbD_shiftLeft]
  rcases Nat.lt_or_ge i n with h | h
  · simp [h, Nat.not_le.mpr h]
  · simp [hi, h, Nat.not_lt.mpr h]
theorem b_ushr (n : Nat) (hn : n < 32) (x : Int32) (i : Nat) : bt ((x.toUInt32 >>> ((nI n).toUInt32 &&& Int32.toUInt32 31)).toInt32) i = bt x (n + i) := by
  show (x.toUInt32 >>> ((nI n).toUInt32 &&& Int32.toUInt32 31)).toBitVec.getLsbD i = x.toUInt32.toBitVec.getLsbD (n + i)
  rw [UInt32.toBitVec_shiftRight]
  show (x.toUInt32.toBitVec >>> (((nI n).toUInt32 &&& Int32.toUInt32 31).toBitVec % 32).toNat).getLsbD i = _
  rw [s_u n hn, BitVec.getLsbD_ushiftRight]
theorem b_sshr (n : Nat) (hn : n < 32) (x : Int32) {i : Nat} (hi : i < 32) : bt (x >>> (nI n &&& 31)) i = if n + i < 32 then bt x (n + i) else bt x 31 := by
  unfold bt
  rw [Int32.toBitVec_shiftRight]
  show (x.toBitVec.sshiftRight ((nI n &&& 31).toBitVec.smod 32).toNat).getLsbD i = _
  rw [s_l n hn, BitVec.getLsbD_sshiftRight, BitVec.msb_eq_getLsbD_last]
  simp [hi]
theorem b_shl8 (x : Int32) {i : Nat} (hi : i < 32) : bt (x <<< ((8 : Int32) &&& 31)) i = (decide (8 ≤ i) && bt x (i - 8)) := b_shl 8 (by omega) x hi
theorem b_shl16 (x : Int32) {i : Nat} (hi : i < 32) : bt (x <<< ((16 : Int32) &&& 31)) i = (decide (16 ≤ i) && bt x (i - 16)) := b_shl 16 (by omega) x hi
theorem b_shl24 (x : Int32) {i : Nat} (hi : i < 32) : bt (x <<< ((24 : Int32) &&& 31)) i = (decide (24 ≤ i) && bt x (i - 24)) := b_shl 24 (by omega) x hi
theorem b_sshr8 (x : Int32) {i : Nat} (hi : i < 32) : bt (x >>> ((8 : Int32) &&& 31)) i = if 8 + i < 32 then bt x (8 + i) else bt x 31 := b_sshr 8 (by omega) x hi
/-! ===== nI under and, xor, >>>, one bit, 65535 ===== -/
theorem nx_and (a b : Nat) : nI a &&& nI b = nI (a &&& b) := by
  apply Int32.toBitVec_inj.1
  show BitVec.ofNat 32 a &&& BitVec.ofNat 32 b = BitVec.ofNat 32 (a &&& b)
  apply BitVec.eq_of_getLsbD_eq
  intro i hi
  simp [hi]
theorem nx_xor (a b : Nat) : nI a ^^^ nI b = nI (a ^^^ b) := by
  apply Int32.toBitVec_inj.1
  show BitVec.ofNat 32 a ^^^ BitVec.ofNat 32 b = BitVec.ofNat 32 (a ^^^ b)
  apply BitVec.eq_of_getLsbD_eq
  intro i hi
  simp [hi]
theorem nI_self (x : Int32) : x = nI x.toBitVec.toNat := by
  apply Int32.toBitVec_inj.1
  show x.toBitVec = BitVec.ofNat 32 x.toBitVec.toNat
  simp
theorem b_1 (i : Nat) : bt 1 i = decide (i = 0) := by
  rcases Nat.lt_or_ge i 32 with h | h
  · exact (by decide +kernel : ∀ i, i < 32 → bt 1 i = decide (i = 0)) i h
  · rw [b_big h, decide_eq_false (by omega)]
theorem b_nI {v i : Nat} (hi : i < 32) : bt (nI v) i = v.testBit i := by
  show (BitVec.ofNat 32 v).getLsbD i = _
  rw [BitVec.getLsbD_ofNat]
  simp [hi]
theorem b_one (u : Nat) (hu : u < 32) {i : Nat} (hi : i < 32) : bt ((1 : Int32) <<< (nI u &&& 31)) i = decide (i = u) := by
  rw [b_shl u hu 1 hi, b_1]
  by_cases h : i = u
  · subst h; simp
  · rw [decide_eq_false h]
    by_cases q : u ≤ i
    · rw [decide_eq_false (show ¬ i - u = 0 by omega)]; simp
    · simp [q]
theorem b_not (x : Int32) {i : Nat} (hi : i < 32) : bt (x ^^^ (-1)) i = !bt x i := by
  rw [b_xor, b_m1 i hi]
  cases bt x i <;> rfl
/-- one bit, as the class asks for it -/
theorem bo_bt (x : Int32) {i : Nat} (hi : i < 32) : s_X2_bitOf x (nI i) = if bt x i = true then 1 else 0 := by
  unfold s_X2_bitOf
  apply b_ext
  intro m hm
  rw [b_and, b_sshr i hi x hm, b_1]
  by_cases h0 : m = 0
  · subst h0
    rw [if_pos (show i + 0 < 32 by omega), Nat.add_zero]
    cases h : bt x i
    · simp [b_0]
    · simp [b_1]
  · rw [decide_eq_false h0, Bool.and_false]
    cases h : bt x i
    · simp [b_0]
    · simp [b_1, h0]
theorem bo_1 (x : Int32) {i : Nat} (hi : i < 32) : s_X2_bitOf x (nI i) = 1 ↔ bt x i = true := by
  rw [bo_bt x hi]
  cases bt x i
  · exact ⟨fun h => absurd h (by decide), fun h => absurd h (by decide)⟩
  · exact ⟨fun _ => rfl, fun _ => rfl⟩
theorem bo_0 (x : Int32) {i : Nat} (hi : i < 32) : s_X2_bitOf x (nI i) = 0 ↔ bt x i = false := by
  rw [bo_bt x hi]
  cases bt x i
  · exact ⟨fun _ => rfl, fun _ => rfl⟩
  · exact ⟨fun h => absurd h (by decide), fun h => absurd h (by decide)⟩
theorem bo_01 (x k : Int32) : s_X2_bitOf x k = 0 ∨ s_X2_bitOf x k = 1 := by
  unfold s_X2_bitOf
  rw [pk_and (x >>> (k &&& 31)) (m := 1) 1 rfl]
  rcases Nat.mod_two_eq_zero_or_one ((x >>> (k &&& 31)).toBitVec.toNat) with h | h
  · left; rw [show (2 ^ 1 : Nat) = 2 from rfl, h]; rfl
  · right; rw [show (2 ^ 1 : Nat) = 2 from rfl, h]; rfl
theorem bo_n0 (x k : Int32) : (¬ s_X2_bitOf x k = 0) ↔ s_X2_bitOf x k = 1 := by
  rcases bo_01 x k with h | h <;> rw [h]
  · exact ⟨fun q => absurd rfl q, fun q => absurd q (by decide)⟩
  · exact ⟨fun _ => rfl, fun _ => by decide⟩
theorem has_0 (x k : Int32) : s_X3_has x k = 0 ↔ ¬ s_X2_bitOf x k = 1 := by
  unfold s_X3_has s_X2_bitOf
  by_cases h : ((x >>> (k &&& 31)) &&& 1) = 1
  · rw [if_pos h]; exact ⟨fun q => absurd q (by decide), fun q => absurd h q⟩
  · rw [if_neg h]; exact ⟨fun _ => h, fun _ => rfl⟩
theorem sub_0 (x y : Int32) : (x &&& (y ^^^ (-1))) = 0 ↔ ∀ i, i < 32 → bt x i = true → bt y i = true := by
  constructor
  · intro h i hi hx
    have h2 : bt (x &&& (y ^^^ (-1))) i = false := by rw [h, b_0]
    rw [b_and, b_not y hi, hx] at h2
    cases hy : bt y i
    · rw [hy] at h2; exact absurd h2 (by decide)
    · rfl
  · intro h
    apply b_ext
    intro i hi
    rw [b_and, b_not y hi, b_0]
    cases hx : bt x i
    · rfl
    · rw [h i hi hx]; rfl
theorem dis_0 (x y : Int32) : (x &&& y) = 0 ↔ ∀ i, i < 32 → bt x i = true → bt y i = false := by
  constructor
  · intro h i hi hx
    have h2 : bt (x &&& y) i = false := by rw [h, b_0]
    rw [b_and, hx] at h2
    exact h2
  · intro h
    apply b_ext
    intro i hi
    rw [b_and, b_0]
    cases hx : bt x i
    · rfl
    · rw [h i hi hx]; rfl
theorem vp_and {x : Int32} {N : Nat} (h : vp_in x N) (hN : N < 2 ^ 31) (y : Int32) : vp_in (x &&& y) N := by
  obtain ⟨v, hv, rfl⟩ := vp_in_of h hN
  rw [nI_self y, nx_and]
  have := Nat.and_le_left (n := v) (m := y.toBitVec.toNat)
  exact vp_in_nI (by omega) hN
theorem in_0 {x : Int32} {lo hi : Int64} : s_X3_in x.toInt64 lo hi = 0 ↔ ¬ (lo.toInt ≤ x.toInt ∧ x.toInt ≤ hi.toInt) := by
  have h := s_in_iff x.toInt64 lo hi
  rw [Int64.le_iff_toInt_le, Int64.le_iff_toInt_le, Int32.toInt_toInt64] at h
  exact ⟨fun e q => (h.mpr q) e, fun e => Classical.byContradiction (fun q => e (h.mp q))⟩
theorem isRule_0 {n : Nat} (hn : n ≤ 10) (k : Int32) : s_X2_isRule n k = 0 ↔ ¬ (0 ≤ k.toInt ∧ k.toInt < n) := by
  unfold s_X2_isRule
  have e0 : (0 : Int32).toInt = 0 := rfl
  by_cases h0 : k < 0
  · rw [if_pos h0]; rw [Int32.lt_iff_toInt_lt, e0] at h0
    exact ⟨fun _ q => by omega, fun _ => rfl⟩
  · rw [if_neg h0]; rw [Int32.lt_iff_toInt_lt, e0] at h0
    by_cases h1 : nI n ≤ k
    · rw [if_pos h1]; rw [Int32.le_iff_toInt_le, nI_toInt10 hn] at h1
      exact ⟨fun _ q => by omega, fun _ => rfl⟩
    · rw [if_neg h1]; rw [Int32.le_iff_toInt_le, nI_toInt10 hn] at h1
      exact ⟨fun q => absurd q (by decide), fun q => absurd ⟨by omega, by omega⟩ q⟩
theorem isRuleM_0 {n : Nat} (hn : n ≤ 10) (k : Int32) : s_X3_isRule n k = 0 ↔ ¬ (0 ≤ k.toInt ∧ k.toInt < n) := by
  unfold s_X3_isRule
  have e : (nI n - 1).toInt = (n : Int) - 1 := pk_sub_toInt (a := n) (b := 1) (by omega) (by omega)
  rw [in_0, Int32.toInt_toInt64, e]
  have e0 : (0 : Int64).toInt = 0 := rfl
  rw [e0]
  exact ⟨fun q z => q ⟨z.1, by omega⟩, fun q z => q ⟨z.1, by omega⟩⟩
theorem isRule_eq {n : Nat} (hn : n ≤ 10) (k : Int32) : s_X2_isRule n k = 0 ↔ s_X3_isRule n k = 0 := (isRule_0 hn k).trans (isRuleM_0 hn k).symm
theorem isRule_of {n : Nat} (hn : n ≤ 10) {k : Int32} (h : ¬ s_X2_isRule n k = 0) : ∃ u : Nat, u < n ∧ k = nI u := by
  rw [isRule_0 hn] at h
  have h2 : 0 ≤ k.toInt ∧ k.toInt < n := Classical.byContradiction (fun q => h q)
  exact vp_in_of (vp_in_iff.mpr h2) (by omega)
theorem isBit_eq (v : Int32) : s_X2_isBit v = 0 ↔ s_X3_in v.toInt64 0 1 = 0 := by
  rw [in_0]
  have e0 : (0 : Int64).toInt = 0 := rfl
  have e1 : (1 : Int64).toInt = 1 := rfl
  rw [e0, e1]
  unfold s_X2_isBit
  by_cases h0 : v = 0
  · subst h0; exact ⟨fun h => absurd h (by decide), fun h => absurd (by decide) h⟩
  · rw [if_neg h0]
    by_cases h1 : v = 1
    · subst h1; exact ⟨fun h => absurd h (by decide), fun h => absurd (by decide) h⟩
    · rw [if_neg h1]
      refine ⟨fun _ q => ?_, fun _ => rfl⟩
      rcases (show v.toInt = 0 ∨ v.toInt = 1 by omega) with z | z
      · exact h0 (Int32.toInt_inj.mp z)
      · exact h1 (Int32.toInt_inj.mp z)
theorem isBit_of {v : Int32} (h : ¬ s_X2_isBit v = 0) : v = 0 ∨ v = 1 := by
  unfold s_X2_isBit at h
  by_cases h0 : v = 0
  · exact Or.inl h0
  · rw [if_neg h0] at h
    by_cases h1 : v = 1
    · exact Or.inr h1
    · rw [if_neg h1] at h; exact absurd rfl h
theorem isSent_eq (v : Int32) : s_X2_isSentence v = 0 ↔ s_X3_in v.toInt64 0 7 = 0 := by
  rw [in_0]
  have e0 : (0 : Int64).toInt = 0 := rfl
  have e1 : (7 : Int64).toInt = 7 := rfl
  rw [e0, e1]
  unfold s_X2_isSentence
  by_cases h0 : v < 0
  · rw [if_pos h0]; rw [Int32.lt_iff_toInt_lt] at h0
    have : (0 : Int32).toInt = 0 := rfl
    exact ⟨fun _ q => by omega, fun _ => rfl⟩
  · rw [if_neg h0]; rw [Int32.lt_iff_toInt_lt] at h0
    have z0 : (0 : Int32).toInt = 0 := rfl
    have z8 : (8 : Int32).toInt = 8 := rfl
    by_cases h1 : (8 : Int32) ≤ v
    · rw [if_pos h1]; rw [Int32.le_iff_toInt_le] at h1
      exact ⟨fun _ q => by omega, fun _ => rfl⟩
    · rw [if_neg h1]; rw [Int32.le_iff_toInt_le] at h1
      exact ⟨fun q => absurd q (by decide), fun q => absurd ⟨by omega, by omega⟩ q⟩
theorem isSent_of {k : Int32} (h : ¬ s_X2_isSentence k = 0) : ∃ u : Nat, u < 8 ∧ k = nI u := vp_in_of (vp_sent h) (by omega)
theorem isSet_eq (v : Int32) : s_X2_isSet v = 0 ↔ s_X3_in v.toInt64 0 255 = 0 := by
  rw [in_0]
  have e0 : (0 : Int64).toInt = 0 := rfl
  have e1 : (255 : Int64).toInt = 255 := rfl
  rw [e0, e1]
  unfold s_X2_isSet
  have z0 : (0 : Int32).toInt = 0 := rfl
  have z8 : (255 : Int32).toInt = 255 := rfl
  by_cases h0 : v < 0
  · rw [if_pos h0]; rw [Int32.lt_iff_toInt_lt] at h0
    exact ⟨fun _ q => by omega, fun _ => rfl⟩
  · rw [if_neg h0]; rw [Int32.lt_iff_toInt_lt] at h0
    by_cases h1 : (255 : Int32) < v
    · rw [if_pos h1]; rw [Int32.lt_iff_toInt_lt] at h1
      exact ⟨fun _ q => by omega, fun _ => rfl⟩
    · rw [if_neg h1]; rw [Int32.lt_iff_toInt_lt] at h1
      exact ⟨fun q => absurd q (by decide), fun q => absurd ⟨by omega, by omega⟩ q⟩
theorem isSet_of {k : Int32} (h : ¬ s_X2_isSet k = 0) : ∃ u : Nat, u < 256 ∧ k = nI u := vp_in_of (vp_set h) (by omega)
theorem isImage_eq (v : Int32) : s_X2_isImage v = 0 ↔ s_X3_in v.toInt64 0 1 = 0 := by
  rw [in_0]
  have e0 : (0 : Int64).toInt = 0 := rfl
  have e1 : (1 : Int64).toInt = 1 := rfl
  rw [e0, e1]
  unfold s_X2_isImage
  have z0 : (0 : Int32).toInt = 0 := rfl
  have z8 : (2 : Int32).toInt = 2 := rfl
  by_cases h0 : v < 0
  · rw [if_pos h0]; rw [Int32.lt_iff_toInt_lt] at h0
    exact ⟨fun _ q => by omega, fun _ => rfl⟩
  · rw [if_neg h0]; rw [Int32.lt_iff_toInt_lt] at h0
    by_cases h1 : (2 : Int32) ≤ v
    · rw [if_pos h1]; rw [Int32.le_iff_toInt_le] at h1
      exact ⟨fun _ q => by omega, fun _ => rfl⟩
    · rw [if_neg h1]; rw [Int32.le_iff_toInt_le] at h1
      exact ⟨fun q => absurd q (by decide), fun q => absurd ⟨by omega, by omega⟩ q⟩
theorem isImage_of {k : Int32} (h : ¬ s_X2_isImage k = 0) : ∃ u : Nat, u < 2 ∧ k = nI u := vp_in_of (vp_image h) (by omega)
theorem cnt_nI : ∀ v : Nat, v < 1024 → s_J6_bitCount_0f7a4 (nI v) = s_X3_ones (nI v) := by decide +kernel
theorem cnt_eq {x : Int32} {N : Nat} (h : vp_in x N) (hN : N ≤ 1024) : s_J6_bitCount_0f7a4 x = s_X3_ones x := by
  obtain ⟨v, hv, rfl⟩ := vp_in_of h (by omega)
  exact cnt_nI v (by omega)
theorem wb_1 (x B : Int32) : (x &&& (B ^^^ (-1))) ||| B = x ||| B := by
  apply b_ext
  intro i hi
  rw [b_or, b_or, b_and, b_not B hi]
  cases bt x i <;> cases bt B i <;> rfl
theorem shl_0 {u : Nat} (hu : u < 32) : (0 : Int32) <<< (nI u &&& 31) = 0 := by
  apply b_ext
  intro i hi
  rw [b_shl u hu 0 hi, b_0, b_0, Bool.and_false]
theorem withBit_1 (x k : Int32) : s_X2_withBit x k 1 = x ||| (1 <<< (k &&& 31)) := wb_1 x _
theorem withBit_0 (x : Int32) {u : Nat} (hu : u < 32) : s_X2_withBit x (nI u) 0 = x &&& ((1 <<< (nI u &&& 31)) ^^^ (-1)) := by
  unfold s_X2_withBit
  rw [shl_0 hu]
  apply b_ext
  intro i hi
  rw [b_or, b_0, Bool.or_false]
theorem vp_bit {x : Int32} {N u : Nat} (h : vp_in x (2 ^ N)) (hN : N ≤ 10) (hu : u < N) : vp_in (x ||| (1 <<< (nI u &&& 31))) (2 ^ N) := by
  have hp : 2 ^ N ≤ 2 ^ 10 := Nat.pow_le_pow_right (by omega) hN
  obtain ⟨v, hv, rfl⟩ := vp_in_of h (by omega)
  rw [one_shl u (by omega), nI_or]
  exact vp_in_nI (Nat.or_lt_two_pow hv (Nat.pow_lt_pow_right (by omega) hu)) (by omega)
