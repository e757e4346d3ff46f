theorem b8 (x : Int32) : x.toInt8.toInt32 &&& 255 = x &&& 255 := by
  apply b_ext
  intro i hi
  rw [b_and, b_and, b_255]
  rcases Nat.lt_or_ge i 8 with h | h
  · rw [decide_eq_true h, Bool.and_true, Bool.and_true]
    unfold bt
    show ((x.toBitVec.signExtend 8).signExtend 32).getLsbD i = x.toBitVec.getLsbD i
    rw [BitVec.getLsbD_signExtend, BitVec.getLsbD_signExtend]
    simp [hi, h, show i < 32 by omega]
  · rw [decide_eq_false (by omega), Bool.and_false, Bool.and_false]
theorem l8 (y : Int64) : (y &&& 255).toInt32 = y.toInt32 &&& 255 := by
  apply Int32.toBitVec_inj.mp
  show (y.toBitVec &&& 255#64).signExtend 32 = y.toBitVec.signExtend 32 &&& 255#32
  apply BitVec.eq_of_getLsbD_eq
  intro i hi
  rw [BitVec.getLsbD_signExtend, BitVec.getLsbD_and, BitVec.getLsbD_and, BitVec.getLsbD_signExtend]
  have h64 : i < 64 := by omega
  have e : (255#64).getLsbD i = (255#32).getLsbD i := (by decide +kernel : ∀ i, i < 32 → (255#64).getLsbD i = (255#32).getLsbD i) i hi
  simp only [hi, h64, decide_true, Bool.true_and, if_true, BitVec.getLsbD_and, e]
theorem type_it {v : Int64} {n0 : Int32} (hnn : ty_ok n0) {len : Nat} {by_ tx : Nat → Int32} (h3 : len + n0.toNatClampNeg ≤ 300) (hrel : ∀ i, i < len → tx i = by_ i &&& 255) : ∀ j : Nat, j ≤ n0.toNatClampNeg → ∃ by1 tx1 : Nat → Int32, itr (f_X2_type_39 v) (8 * (n0 - 1), by_, nI len) j = (8 * (n0 - 1 - nI j), by1, nI (len + j)) ∧ itr (f_X3_type_34 v len) (n0 - 1, tx) j = (n0 - 1 - nI j, tx1) ∧ ∀ i, i < len + j → tx1 i = by1 i &&& 255 := by
  intro j
  induction j with
  | zero =>
    intro _
    refine ⟨by_, tx, ?_, ?_, hrel⟩
    · rw [itr_zero, nI_0, Int32.sub_zero]; rfl
    · rw [itr_zero, nI_0, Int32.sub_zero]
  | succ j ih =>
    intro hj
    obtain ⟨by1, tx1, e1, e2, h⟩ := ih (by omega)
    have h8 := hnn.2.1
    refine ⟨upd by1 (len + j) (vp_nar .byte (((v >>> ((8 * (n0 - 1 - nI j)).toInt64 &&& 63)).toInt32).toInt8.toInt32)), upd tx1 (len + j) (((v >>> ((8 * (n0 - 1 - nI j)).toInt64 &&& 63)) &&& 255).toInt32), ?_, ?_, ?_⟩
    · rw [itr_succ, e1]
      unfold f_X2_type_39 s_X1_append
      dsimp only
      rw [if_neg (nI_pos (show len + j < 2 ^ 31 by omega)), if_neg (show ¬ (300 : Int32) ≤ nI (len + j) from nI_ge (a := len + j) (b := 300) (by omega) (by omega)), nI_clamp (by omega), nI_1]
      dsimp only
      rw [sh_step rfl]
      rfl
    · rw [itr_succ, e2]
      unfold f_X3_type_34
      dsimp only
      rw [i_step]
    · intro i hi
      unfold upd
      by_cases e : i = len + j
      · rw [if_pos e, if_pos e, pk_vb, b8, l8]
      · rw [if_neg e, if_neg e]
        exact h i (by omega)
section TY
variable {n len : Nat} {on may asd kept : Int32} {hd fi un hdm fim unm by_ tx io ia kp ko ka : Nat → Int32}
theorem q_type {v : Int64} {n0 r1 r2 ln1 : Int32} {by1 tx2 : Nat → Int32} {td2 : Nat} (hR : Rel n len on may asd kept hd fi un hdm fim unm by_ tx io ia kp ko ka) (h1 : (r1, by1, ln1) = s_X2_type by_ (nI len) v n0) (h2 : (r2, tx2, td2) = s_X3_type len tx v n0) : r1 = r2 ∧ ln1 = nI td2 ∧ Rel n td2 on may asd kept hd fi un hdm fim unm by1 tx2 io ia kp ko ka := by
  unfold s_X2_type at h1
  unfold s_X3_type at h2
  have e1 : (1 : Int32).toInt = 1 := rfl
  have e8 : (8 : Int32).toInt = 8 := rfl
  have z1 : (1 : Int64).toInt = 1 := rfl
  have z8 : (8 : Int64).toInt = 8 := rfl
  have out : s_X3_in n0.toInt64 1 8 = 0 → (r1, by1, ln1) = ((-1), by_, nI len) → r1 = r2 ∧ ln1 = nI td2 ∧ Rel n td2 on may asd kept hd fi un hdm fim unm by1 tx2 io ia kp ko ka := by
    intro c e
    rw [if_pos c] at h2
    obtain ⟨rfl, rfl, rfl⟩ := p3 e
    obtain ⟨rfl, rfl, rfl⟩ := p3 h2
    exact ⟨rfl, rfl, hR⟩
  by_cases c1 : n0 < 1
  · rw [if_pos c1] at h1
    refine out ?_ h1
    rw [in_0, z1, z8]
    rw [Int32.lt_iff_toInt_lt] at c1
    omega
  · rw [if_neg c1] at h1
    by_cases c2 : n0 ≤ 8
    · rw [if_pos c2] at h1
      have hnn := ty_of c1 c2
      have c3 : ¬ s_X3_in n0.toInt64 1 8 = 0 := by
        rw [in_0, z1, z8]
        rw [Int32.lt_iff_toInt_lt] at c1
        rw [Int32.le_iff_toInt_le] at c2
        intro q
        exact q ⟨by omega, by omega⟩
      rw [if_neg c3] at h2
      by_cases c4 : (nI len + n0) ≤ 300
      · rw [if_pos c4] at h1 h2
        have h3 := ty_room hnn hR.hlen c4
        obtain ⟨b, t, i1, i2, i3⟩ := type_it (v := v) hnn h3 hR.2.2.1 n0.toNatClampNeg (Nat.le_refl _)
        rw [i1] at h1
        rw [i2] at h2
        obtain ⟨rfl, rfl, rfl⟩ := p3 h1
        obtain ⟨rfl, rfl, rfl⟩ := p3 h2
        obtain ⟨⟨a1, a2, a3⟩, bb, cc, dd⟩ := hR
        exact ⟨rfl, rfl, ⟨a1, h3, a3⟩, bb, i3, dd⟩
      · rw [if_neg c4] at h1 h2
        obtain ⟨rfl, rfl, rfl⟩ := p3 h1
        obtain ⟨rfl, rfl, rfl⟩ := p3 h2
        exact ⟨rfl, rfl, hR⟩
    · rw [if_neg c2] at h1
      refine out ?_ h1
      rw [in_0, z1, z8]
      rw [Int32.le_iff_toInt_le] at c2
      omega
end TY
