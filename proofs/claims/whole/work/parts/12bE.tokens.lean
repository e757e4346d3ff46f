/-! ===== tokens: the class's advance and the reference's next ===== -/
section TKN
variable {by_ tx : Nat → Int32} {len : Nat}
def Ch (len : Nat) (by_ tx : Nat → Int32) : Prop := len ≤ 300 ∧ ∀ i, i < len → tx i = by_ i &&& 255
theorem ch_at (h : Ch len by_ tx) {i : Nat} (hi : i < len) : s_X1_byteAt by_ (nI i) = tx i := by
  have hl := h.1
  unfold s_X1_byteAt
  rw [if_neg (nI_pos (by omega)), if_neg (show ¬ (300 : Int32) ≤ nI i from nI_ge (a := i) (b := 300) (by omega) (by omega)), nI_clamp (by omega)]
  exact (h.2 i hi).symm
theorem ch_n (h : Ch len by_ tx) {i : Nat} (hi : i < len) : ∃ c : Nat, c < 256 ∧ tx i = nI c := by
  rw [h.2 i hi]
  exact pk_andE (by_ i) 8 (by decide)
theorem let_0 {c : Nat} (hc : c < 256) : s_X1_isLetter (nI c) = 0 ↔ ¬ (97 ≤ c ∧ c ≤ 122) := (by decide +kernel : ∀ c, c < 256 → (s_X1_isLetter (nI c) = 0 ↔ ¬ (97 ≤ c ∧ c ≤ 122))) c hc
theorem push5 {γ : Type} (f : Int32 → γ) (word : Int64) : (if 0 < (lg_cmp word 8) then (if (lg_cmp word 294) = 0 then f 8 else (if (lg_cmp word 719722099) = 0 then f 9 else (if (lg_cmp word 14866610) = 0 then f 10 else (if (lg_cmp word 13369) = 0 then f 11 else f 13)))) else f (((word : Int64).toInt32) - 1)) = f (tokM word) := by
  unfold tokM
  by_cases a : 0 < lg_cmp word 8
  · rw [if_pos a, if_pos a]
    by_cases b : lg_cmp word 294 = 0
    · rw [if_pos b, if_pos b]
    rw [if_neg b, if_neg b]
    by_cases c : lg_cmp word 719722099 = 0
    · rw [if_pos c, if_pos c]
    rw [if_neg c, if_neg c]
    by_cases d : lg_cmp word 14866610 = 0
    · rw [if_pos d, if_pos d]
    rw [if_neg d, if_neg d]
    by_cases e : lg_cmp word 13369 = 0
    · rw [if_pos e, if_pos e]
    rw [if_neg e, if_neg e]
  · rw [if_neg a, if_neg a]
theorem word_it (h : Ch len by_ tx) (q j0 : Nat) (hq : q + j0 ≤ len) : ∀ m : Nat, m ≤ len - (q + j0) →
    (∃ w v : Nat, itE (f_X1_readWord_2 by_ (q + j0)) 0 m = .inr (lN w) ∧ itE (f_X3_next_111 tx q j0) 0 m = .inr (lN v) ∧ Wk m w v) ∨
    (∃ j w v : Nat, (q + j0) + j < len ∧ s_X1_isLetter (tx ((q + j0) + j)) = 0 ∧ itE (f_X1_readWord_2 by_ (q + j0)) 0 m = .inl ((q + j0) + j, s_X1_tokenOf (lN w)) ∧ itE (f_X3_next_111 tx q j0) 0 m = .inl (.inl (tokM (lN v), (q + j0) + j, nI (q + j0))) ∧ Wk j w v)
  | 0, _ => Or.inl ⟨0, 0, rfl, rfl, Wk_0⟩
  | m + 1, hm => by
    have hl3 := h.1
    rcases word_it h q j0 hq m (by omega) with ⟨w, v, e1, e2, hW⟩ | ⟨j, w, v, hj, hl, e1, e2, hW⟩
    · have hi : q + j0 + m < len := by omega
      obtain ⟨c, hc, ec⟩ := ch_n h hi
      have hb := ch_at h hi
      by_cases l : s_X1_isLetter (tx (q + j0 + m)) = 0
      · refine Or.inr ⟨m, w, v, hi, l, itE_succ e1 ?_, itE_succ e2 ?_, hW⟩
        · unfold f_X1_readWord_2
          dsimp only
          rw [hb]
          exact if_pos l
        · unfold f_X3_next_111
          dsimp only
          rw [if_pos (show s_X3_isLetter (tx (q + j0 + m)) = 0 from l)]
          exact push5 (fun u => Sum.inl (Sum.inl (u, q + j0 + m, nI (q + j0)))) (lN v)
      · have hcl : 97 ≤ c ∧ c ≤ 122 := by
          rw [ec] at l
          exact Classical.not_not.mp (fun z => l ((let_0 hc).mpr z))
        refine Or.inl ⟨(256 * w + c) % 18446744073709551616, if 7 ≤ m then v else 32 * v + (c - 96), itE_succ e1 ?_, itE_succ e2 ?_, Wk_step hW hcl.1 hcl.2⟩
        · unfold f_X1_readWord_2
          dsimp only
          rw [hb, if_neg l, ec, lw_step hc]
        · unfold f_X3_next_111
          dsimp only
          rw [if_neg (show ¬ s_X3_isLetter (tx (q + j0 + m)) = 0 from l), pk_sub (by omega), show q + j0 + m - (q + j0) = m by omega]
          by_cases z : 7 ≤ m
          · rw [if_pos z, if_pos (show (7 : Int32) ≤ nI m from nI_le (a := 7) z (by omega))]
          · rw [if_neg z, if_neg (show ¬ (7 : Int32) ≤ nI m from nI_ge (a := m) (b := 7) (by omega) (by omega)), ec, nI_l (by omega), show (32 : Int64) = lN 32 from rfl, show (96 : Int64) = lN 96 from rfl, lN_mul, lN_add, lN_sub (by omega)]
            exact congrArg (fun x => Sum.inr (lN x)) (by omega)
    · exact Or.inr ⟨j, w, v, hj, hl, itE_stop e1 (m + 1) (by omega), itE_stop e2 (m + 1) (by omega), hW⟩
def TR (len q : Nat) (c : Nat × Int32 × Int32) (m : Int32 × Nat × Int32) : Prop := c.2.2 = m.2.2 ∧ ((∃ u : Nat, u ≤ 12 ∧ c.2.1 = nI u ∧ m.1 = nI u ∧ m.2.1 = c.1 ∧ q < c.1 ∧ c.1 ≤ len) ∨ (c.2.1 = 14 ∧ m.1 = 13 ∧ q < len) ∨ (c.2.1 = 13 ∧ m.1 = 14 ∧ c.2.2 = nI len))
theorem TR_of {q P : Nat} {a b f : Int32} (hT : TK a b) (hq : q < P) (hP : P ≤ len) : TR len q (P, a, f) (b, P, f) := by
  refine ⟨rfl, ?_⟩
  rcases hT with ⟨u, hu, e1, e2⟩ | ⟨e1, e2⟩
  · exact Or.inl ⟨u, hu, e1, e2, rfl, hq, hP⟩
  · exact Or.inr (Or.inl ⟨e1, e2, by omega⟩)
theorem tk_step (h : Ch len by_ tx) {q j0 : Nat} (hi : q + j0 < len) : (f_X1_advance_0 by_ len q j0 () = .inr () ∧ f_X3_next_0 tx len q j0 () = .inr ()) ∨ ∃ c m, f_X1_advance_0 by_ len q j0 () = .inl c ∧ f_X3_next_0 tx len q j0 () = .inl m ∧ TR len q c m := by
  have hl3 := h.1
  obtain ⟨c, hc, ec⟩ := ch_n h hi
  have hb := ch_at h hi
  unfold f_X1_advance_0 f_X3_next_0
  rw [hb]
  by_cases z : tx (q + j0) = 32
  · rw [if_pos z, if_pos z]
    exact Or.inl ⟨rfl, rfl⟩
  rw [if_neg z, if_neg z]
  by_cases s : tx (q + j0) = 59
  · have l : s_X3_isLetter (tx (q + j0)) = 0 := by rw [s]; decide
    rw [if_pos s, if_pos l, if_pos s]
    exact Or.inr ⟨_, _, rfl, rfl, rfl, Or.inl ⟨12, by omega, rfl, rfl, rfl, by show q < q + j0 + 1; omega, by show q + j0 + 1 ≤ len; omega⟩⟩
  rw [if_neg s]
  by_cases l : s_X1_isLetter (tx (q + j0)) = 0
  · rw [if_pos l, if_pos (show s_X3_isLetter (tx (q + j0)) = 0 from l), if_neg s]
    exact Or.inr ⟨_, _, rfl, rfl, rfl, Or.inr (Or.inl ⟨rfl, rfl, by omega⟩)⟩
  rw [if_neg l, if_neg (show ¬ s_X3_isLetter (tx (q + j0)) = 0 from l)]
  refine Or.inr ?_
  rcases word_it h q j0 (by omega) (len - (q + j0)) (Nat.le_refl _) with ⟨w, v, e1, e2, hW⟩ | ⟨j, w, v, hj, hl, e1, e2, hW⟩
  · have er : s_X1_readWord by_ len (q + j0) = (q + j0 + (len - (q + j0)), s_X1_tokenOf (lN w)) := by
      unfold s_X1_readWord
      rw [e1, onE_r]
    rw [er, e2, onE_r]
    refine ⟨_, _, rfl, push5 (fun u => Sum.inl (u, q + j0 + (len - (q + j0)), nI (q + j0))) (lN v), ?_⟩
    exact TR_of (tok_word hW (by omega)) (by omega) (by omega)
  · have er : s_X1_readWord by_ len (q + j0) = (q + j0 + j, s_X1_tokenOf (lN w)) := by
      unfold s_X1_readWord
      rw [e1, onE_l]
    rw [er, e2, onE_l]
    refine ⟨_, _, rfl, rfl, ?_⟩
    have j1 : 1 ≤ j := by
      rcases Nat.eq_zero_or_pos j with z | z
      · rw [z] at hl; exact absurd hl l
      · exact z
    exact TR_of (tok_word hW j1) (by omega) (by omega)
theorem adv_it (h : Ch len by_ tx) {q : Nat} (hq : q ≤ len) : ∀ m : Nat, m ≤ len - q → (itE (f_X1_advance_0 by_ len q) () m = .inr () ∧ itE (f_X3_next_0 tx len q) () m = .inr ()) ∨ ∃ c r, itE (f_X1_advance_0 by_ len q) () m = .inl c ∧ itE (f_X3_next_0 tx len q) () m = .inl r ∧ TR len q c r
  | 0, _ => Or.inl ⟨rfl, rfl⟩
  | m + 1, hm => by
    rcases adv_it h hq m (by omega) with ⟨e1, e2⟩ | ⟨c, r, e1, e2, hT⟩
    · rcases tk_step h (q := q) (j0 := m) (by omega) with ⟨g1, g2⟩ | ⟨c, r, g1, g2, hT⟩
      · exact Or.inl ⟨itE_succ e1 g1, itE_succ e2 g2⟩
      · exact Or.inr ⟨c, r, itE_succ e1 g1, itE_succ e2 g2, hT⟩
    · exact Or.inr ⟨c, r, itE_stop e1 (m + 1) (by omega), itE_stop e2 (m + 1) (by omega), hT⟩
theorem tok_rel (h : Ch len by_ tx) {q : Nat} (hq : q ≤ len) : TR len q (s_X1_advance by_ len q) (s_X3_next tx len q) := by
  unfold s_X1_advance s_X3_next
  rcases adv_it h hq (len - q) (Nat.le_refl _) with ⟨e1, e2⟩ | ⟨c, r, e1, e2, hT⟩
  · rw [e1, e2, onE_r, onE_r]
    exact ⟨rfl, Or.inr (Or.inr ⟨rfl, rfl, congrArg nI (by omega)⟩)⟩
  · rw [e1, e2, onE_l, onE_l]
    exact hT
end TKN
