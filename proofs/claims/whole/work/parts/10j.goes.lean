def tk_ok (p : Int32) (rr : Nat) : Prop := ((p = 1 ∨ p = 2) → rr < 10) ∧ ((p = 4 ∨ p = 6) → 1 ≤ rr)
def PI (p : Int32) (rr : Nat) : Prop := (p = 0 ∨ p = 7 ∨ p = 8) ∨ ((p = 1 ∨ p = 2 ∨ p = 3 ∨ p = 4 ∨ p = 5 ∨ p = 6) ∧ 1 ≤ rr)
theorem lt10 {rr : Nat} (hr : rr ≤ 10) (h : ¬ (10 : Int32) ≤ nI rr) : rr < 10 := by
  rcases Nat.lt_or_ge rr 10 with q | q
  · exact q
  · exact absurd (nI_le (a := 10) (b := rr) q (by omega)) h
/-- where goesTo leads, and what it takes to go there -/
theorem goesTo_all {p tk : Int32} {rr : Nat} (hpi : PI p rr) (hr : rr ≤ 10) (h : 0 ≤ s_X3_goesTo rr p tk) : ((s_X3_goesTo rr p tk = 1 ∨ s_X3_goesTo rr p tk = 2) ∧ rr < 10) ∨ ((s_X3_goesTo rr p tk = 3 ∨ s_X3_goesTo rr p tk = 4 ∨ s_X3_goesTo rr p tk = 5 ∨ s_X3_goesTo rr p tk = 6) ∧ 1 ≤ rr) ∨ (s_X3_goesTo rr p tk = 0 ∨ s_X3_goesTo rr p tk = 7 ∨ s_X3_goesTo rr p tk = 8) := by
  have hn : ¬ (0 : Int32) ≤ -1 := by decide
  revert h
  rcases hpi with (q | q | q) | ⟨q | q | q | q | q | q, h1⟩ <;> subst q <;> unfold s_X3_goesTo <;> simp (config := { decide := true }) only [if_true, if_false] <;> (repeat' split) <;> intro h <;> first
    | exact absurd h hn
    | exact Or.inl ⟨by decide, lt10 hr (by assumption)⟩
    | exact Or.inr (Or.inl ⟨by decide, h1⟩)
    | exact Or.inr (Or.inr (by decide))
theorem goesTo_tk {p tk : Int32} {rr : Nat} (hpi : PI p rr) (hr : rr ≤ 10) (h : 0 ≤ s_X3_goesTo rr p tk) : tk_ok (s_X3_goesTo rr p tk) rr := by
  rcases goesTo_all hpi hr h with ⟨q, h1⟩ | ⟨q, h1⟩ | q
  · refine ⟨fun _ => h1, fun z => ?_⟩
    rcases q with q | q <;> rw [q] at z <;> exact absurd z (by decide)
  · exact ⟨fun z => by rcases q with q | q | q | q <;> rw [q] at z <;> exact absurd z (by decide), fun _ => h1⟩
  · exact ⟨fun z => by rcases q with q | q | q <;> rw [q] at z <;> exact absurd z (by decide), fun z => by rcases q with q | q | q <;> rw [q] at z <;> exact absurd z (by decide)⟩
theorem goesTo_PI {p tk : Int32} {rr rr' : Nat} (hpi : PI p rr) (h : 0 ≤ s_X3_goesTo rr p tk) (h1 : rr ≤ rr') (h2 : (s_X3_goesTo rr p tk = 1 ∨ s_X3_goesTo rr p tk = 2) → 1 ≤ rr') (hr : rr ≤ 10) : PI (s_X3_goesTo rr p tk) rr' := by
  rcases goesTo_all hpi hr h with ⟨q, h3⟩ | ⟨q, h3⟩ | q
  · exact Or.inr ⟨by rcases q with q | q; exact Or.inl q; exact Or.inr (Or.inl q), h2 q⟩
  · exact Or.inr ⟨Or.inr (Or.inr q), by omega⟩
  · exact Or.inl q
