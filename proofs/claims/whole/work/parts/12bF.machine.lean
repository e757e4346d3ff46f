/-! ===== the reference's machine over the tokens ===== -/
theorem itE_front {α β : Type} {f : Nat → α → β ⊕ α} (hf : ∀ j s, f j s = f 0 s) (s : α) : ∀ k : Nat, itE f s (k + 1) = bnE (f 0 s) (fun s' => itE f s' k)
  | 0 => by
    show f 0 s = _
    cases f 0 s <;> rfl
  | k + 1 => by
    have ih := itE_front hf s k
    have e : f (k + 1) = f k := funext (fun a => (hf (k + 1) a).trans (hf k a).symm)
    show bnE (itE f s (k + 1)) (f (k + 1)) = _
    rw [ih, e]
    cases f 0 s <;> rfl
abbrev Rr : Type := Int32 × Nat × (Nat → Int32) × (Nat → Int32) × (Nat → Int32) × Int32 × Int32 × Int32 × (Nat → Int32) × Nat
abbrev S5 : Type := (Nat → Int32) × (Nat → Int32) × (Nat → Int32) × Nat × Int32
abbrev En : Type := Nat × (Nat → Int32) × (Nat → Int32) × (Nat → Int32) × (Nat → Int32) × Int32 × Int32 × Int32
def mS (G : En) (items : Int32) (S : S5) : Rr := match itr (f_X3_rules_98 S.1 S.2.1 S.2.2.1) (G.2.1, G.2.2.1, G.2.2.2.1) S.2.2.2.1 with | (hd9, fi9, un9) => (items, S.2.2.2.1, hd9, fi9, un9, ((1 <<< ((nI S.2.2.2.1) &&& 31)) - 1), S.2.2.2.2, 0, (upd (upd G.2.2.2.2.1 (0 : Int32).toNatClampNeg (vp_nar .boolean 0)) (1 : Int32).toNatClampNeg (vp_nar .boolean 0)), 0)
def mF (len : Nat) (G : En) (f : Int32) : Rr := (((-10) - f), G.1, G.2.1, G.2.2.1, G.2.2.2.1, G.2.2.2.2.2.1, G.2.2.2.2.2.2.1, G.2.2.2.2.2.2.2, G.2.2.2.2.1, len)
def mE (len : Nat) (G : En) (items pl : Int32) (S : S5) : Rr := if pl = 0 then mS G items S else mF len G (nI len)
def mR (tx : Nat → Int32) (len : Nat) (G : En) := f_X3_rules_24 tx len G.1 G.2.1 G.2.2.1 G.2.2.2.1 G.2.2.2.2.2.1 G.2.2.2.2.2.2.1 G.2.2.2.2.2.2.2 G.2.2.2.2.1
def mK (tx : Nat → Int32) (len : Nat) (G : En) (K : Nat) (items pl : Int32) (tok : Int32 × Nat × Int32) (S : S5) : Rr := onE (itE (mR tx len G) (items, pl, tok.1, tok.2.1, tok.2.2, S) K) (fun st => mE len G st.1 st.2.1 st.2.2.2.2.2)
def MQx (tx : Nat → Int32) (len : Nat) (G : En) (items pl : Int32) (q : Nat) (S : S5) (r : Rr) : Prop := ∃ K : Nat, 300 ≤ K + q ∧ mK tx len G K items pl (s_X3_next tx len q) S = r
section MQS
variable {by_ tx : Nat → Int32} {len : Nat} {G : En} {r : Rr}
theorem mq_start {n : Nat} {hd fi un kp rhd rif rul : Nat → Int32} {on may asd : Int32} : MQx tx len (n, hd, fi, un, kp, on, may, asd) 0 (nI 0) 0 (rhd, rif, rul, 0, 0) (s_X3_rules tx len n hd fi un on may asd kp rhd rif rul) := by
  refine ⟨300, by omega, ?_⟩
  unfold s_X3_rules mK mR
  generalize (300 : Nat) = N
  generalize s_X3_next tx len 0 = w
  obtain ⟨a, b, c⟩ := w
  rw [nI_0]
  dsimp only
  generalize itE (f_X3_rules_24 tx len n hd fi un on may asd kp) (0, 0, a, b, c, rhd, rif, rul, 0, 0) N = z
  cases z with
  | inl z => rfl
  | inr st =>
    obtain ⟨items, pl2, tk2, q2, fr2, rhd2, rif2, rul2, rr2, prm2⟩ := st
    rfl
theorem mR_j (j : Nat) (s : Int32 × Int32 × Int32 × Nat × Int32 × S5) : mR tx len G j s = mR tx len G 0 s := rfl
theorem mK_in {K : Nat} {items pl tk fr : Int32} {q2 p : Nat} {S : S5} (h14 : ¬ tk = 14) (hp : p < 2 ^ 31) (hg : s_X3_goesTo S.2.2.2.1 pl tk = nI p) : mK tx len G (K + 1) items pl (tk, q2, fr) S = mK tx len G K (if p = 0 then items + 1 else items) (nI p) (s_X3_next tx len q2) (s_X3_take S.1 S.2.1 S.2.2.1 S.2.2.2.1 S.2.2.2.2 (nI p) tk) := by
  obtain ⟨rhd, rif, rul, rr, prm⟩ := S
  dsimp only at hg ⊢
  have e : mR tx len G 0 (items, pl, tk, q2, fr, rhd, rif, rul, rr, prm) = .inr ((if p = 0 then items + 1 else items), nI p, (s_X3_next tx len q2).1, (s_X3_next tx len q2).2.1, (s_X3_next tx len q2).2.2, s_X3_take rhd rif rul rr prm (nI p) tk) := by
    unfold mR f_X3_rules_24
    dsimp only
    rw [if_neg h14, hg, if_pos (nI_pos' hp)]
    generalize s_X3_take rhd rif rul rr prm (nI p) tk = T
    obtain ⟨t1, t2, t3, t4, t5⟩ := T
    generalize s_X3_next tx len q2 = w
    obtain ⟨w1, w2, w3⟩ := w
    dsimp only
    by_cases p0 : p = 0
    · rw [if_pos p0, if_pos (show nI p = 0 by rw [p0]; exact nI_0)]
    · rw [if_neg p0, if_neg (nI_ne0 (by omega) hp), Int32.add_zero]
  unfold mK
  rw [itE_front mR_j, e]
  rfl
theorem mK_out {K : Nat} {items pl tk fr : Int32} {q2 : Nat} {S : S5} (h14 : ¬ tk = 14) (hg : s_X3_goesTo S.2.2.2.1 pl tk = -1) : mK tx len G (K + 1) items pl (tk, q2, fr) S = mF len G fr := by
  obtain ⟨rhd, rif, rul, rr, prm⟩ := S
  dsimp only at hg ⊢
  have e : mR tx len G 0 (items, pl, tk, q2, fr, rhd, rif, rul, rr, prm) = .inl (mF len G fr) := by
    unfold mR f_X3_rules_24
    dsimp only
    rw [if_neg h14, hg, if_neg (show ¬ (0 : Int32) ≤ -1 by decide)]
    rfl
  unfold mK
  rw [itE_front mR_j, e]
  rfl
theorem mK_over {K : Nat} {items pl fr : Int32} {q2 : Nat} {S : S5} : mK tx len G K items pl (14, q2, fr) S = mE len G items pl S := by
  obtain ⟨rhd, rif, rul, rr, prm⟩ := S
  cases K with
  | zero => rfl
  | succ K =>
    have e : mR tx len G 0 (items, pl, 14, q2, fr, rhd, rif, rul, rr, prm) = .inl (mE len G items pl (rhd, rif, rul, rr, prm)) := by
      unfold mR f_X3_rules_24 mE
      dsimp only
      rw [if_pos (show (14 : Int32) = 14 from rfl)]
      by_cases c : pl = 0
      · rw [if_pos c, if_pos c]
        unfold mS
        dsimp only
        have e8 : f_X3_rules_98b rhd rif rul = f_X3_rules_98 rhd rif rul := rfl
        rw [e8]
      · rw [if_neg c, if_neg c]
        rfl
    unfold mK
    rw [itE_front mR_j, e]
    rfl
theorem nI_ne {a b : Nat} (h : a ≠ b) (ha : a < 2 ^ 31) (hb : b < 2 ^ 31) : ¬ nI a = nI b := fun z => h ((nI_eq ha hb).mp z)
theorem mq_go (hC : Ch len by_ tx) {q : Nat} (hq : q ≤ len) {items pl : Int32} {S : S5} (hM : MQx tx len G items pl q S r) {u p : Nat} (hu : u ≤ 12) (ht : (s_X1_advance by_ len q).2.1 = nI u) (hp : p < 2 ^ 31) (hg : s_X3_goesTo S.2.2.2.1 pl (nI u) = nI p) :
    q < (s_X1_advance by_ len q).1 ∧ (s_X1_advance by_ len q).1 ≤ len ∧ MQx tx len G (if p = 0 then items + 1 else items) (nI p) (s_X1_advance by_ len q).1 (s_X3_take S.1 S.2.1 S.2.2.1 S.2.2.2.1 S.2.2.2.2 (nI p) (nI u)) r := by
  have hl := hC.1
  have hT := tok_rel hC hq
  obtain ⟨K, hK, e⟩ := hM
  generalize s_X1_advance by_ len q = A at hT ht ⊢
  generalize s_X3_next tx len q = w at hT e
  obtain ⟨tk, q2, fr⟩ := w
  obtain ⟨ef, hT⟩ := hT
  rcases hT with ⟨u', hu', e1, e2, e3, h4, h5⟩ | ⟨e1, _⟩ | ⟨e1, _⟩
  · have : u = u' := (nI_eq (by omega) (by omega)).mp (ht.symm.trans e1)
    dsimp only at e2 e3 ef
    rw [← this] at e2
    obtain ⟨K', rfl⟩ : ∃ K', K = K' + 1 := ⟨K - 1, by omega⟩
    rw [e2, mK_in (nI_ne (b := 14) (by omega) (by omega) (by omega)) hp hg, e3] at e
    exact ⟨h4, h5, K', by omega, e⟩
  · exact absurd (ht.symm.trans e1) (nI_ne (b := 14) (by omega) (by omega) (by omega))
  · exact absurd (ht.symm.trans e1) (nI_ne (b := 13) (by omega) (by omega) (by omega))
theorem mq_bad (hC : Ch len by_ tx) {q : Nat} (hq : q ≤ len) {items pl : Int32} {S : S5} (hM : MQx tx len G items pl q S r) (hb : ∀ u : Nat, u ≤ 12 → (s_X1_advance by_ len q).2.1 = nI u → s_X3_goesTo S.2.2.2.1 pl (nI u) = -1) (h13 : s_X3_goesTo S.2.2.2.1 pl 13 = -1) (hpl : (s_X1_advance by_ len q).2.1 = 13 → ¬ pl = 0) : r = mF len G (s_X1_advance by_ len q).2.2 := by
  have hl := hC.1
  have hT := tok_rel hC hq
  obtain ⟨K, hK, e⟩ := hM
  generalize s_X1_advance by_ len q = A at hT hb hpl ⊢
  generalize s_X3_next tx len q = w at hT e
  obtain ⟨tk, q2, fr⟩ := w
  obtain ⟨ef, hT⟩ := hT
  dsimp only at ef hT
  rcases hT with ⟨u', hu', e1, e2, e3, h4, h5⟩ | ⟨e1, e2, e3⟩ | ⟨e1, e2, e3⟩
  · obtain ⟨K', rfl⟩ : ∃ K', K = K' + 1 := ⟨K - 1, by omega⟩
    rw [e2, mK_out (nI_ne (b := 14) (by omega) (by omega) (by omega)) (hb u' hu' e1)] at e
    rw [ef]; exact e.symm
  · obtain ⟨K', rfl⟩ : ∃ K', K = K' + 1 := ⟨K - 1, by omega⟩
    rw [e2, mK_out (by decide) h13] at e
    rw [ef]; exact e.symm
  · rw [e2, mK_over] at e
    unfold mE at e
    rw [if_neg (hpl e1)] at e
    rw [e3]; exact e.symm
theorem mq_over (hC : Ch len by_ tx) {q : Nat} (hq : q ≤ len) {items : Int32} {S : S5} (hM : MQx tx len G items (nI 0) q S r) (h13 : (s_X1_advance by_ len q).2.1 = 13) : r = mS G items S := by
  have hT := tok_rel hC hq
  obtain ⟨K, hK, e⟩ := hM
  generalize s_X1_advance by_ len q = A at hT h13 ⊢
  generalize s_X3_next tx len q = w at hT e
  obtain ⟨tk, q2, fr⟩ := w
  obtain ⟨ef, hT⟩ := hT
  dsimp only at ef hT
  rcases hT with ⟨u', hu', e1, _⟩ | ⟨e1, _⟩ | ⟨e1, e2, e3⟩
  · exact absurd (e1.symm.trans h13) (nI_ne (b := 13) (by omega) (by omega) (by omega))
  · exact absurd (e1.symm.trans h13) (by decide)
  · rw [e2, mK_over] at e
    unfold mE at e
    rw [if_pos nI_0] at e
    exact e.symm
theorem tk_any (hC : Ch len by_ tx) {q : Nat} (hq : q ≤ len) : ∃ u : Nat, u ≤ 14 ∧ (s_X1_advance by_ len q).2.1 = nI u := by
  obtain ⟨_, hT⟩ := tok_rel hC hq
  rcases hT with ⟨u', hu', e1, _⟩ | ⟨e1, _⟩ | ⟨e1, e2, e3⟩
  · exact ⟨u', by omega, e1⟩
  · exact ⟨14, by omega, e1⟩
  · exact ⟨13, by omega, e1⟩
theorem tk_end (hC : Ch len by_ tx) : (s_X1_advance by_ len len).2.1 = 13 := by
  obtain ⟨_, hT⟩ := tok_rel hC (Nat.le_refl len)
  rcases hT with ⟨u', hu', e1, _, _, h4, h5⟩ | ⟨e1, _, h⟩ | ⟨e1, e2, e3⟩
  · omega
  · omega
  · exact e1
theorem goes_rr {pl : Int32} (h : ¬ pl = 0) (rr : Nat) (tk : Int32) : s_X3_goesTo rr pl tk = s_X3_goesTo 0 pl tk := by
  unfold s_X3_goesTo
  simp only [if_neg h]
theorem take_id {p : Nat} (h : p = 0 ∨ p = 3 ∨ p = 5 ∨ p = 7) (S : S5) (tk : Int32) : s_X3_take S.1 S.2.1 S.2.2.1 S.2.2.2.1 S.2.2.2.2 (nI p) tk = S := by
  unfold s_X3_take
  have h1 : ¬ nI p = 1 := nI_ne (b := 1) (by omega) (by omega) (by omega)
  have h2 : ¬ nI p = 2 := nI_ne (b := 2) (by omega) (by omega) (by omega)
  have h4 : ¬ nI p = 4 := nI_ne (b := 4) (by omega) (by omega) (by omega)
  have h6 : ¬ nI p = 6 := nI_ne (b := 6) (by omega) (by omega) (by omega)
  have h8 : ¬ nI p = 8 := nI_ne (b := 8) (by omega) (by omega) (by omega)
  rw [if_neg h1, if_neg h2, if_neg h4, if_neg h6, if_neg h8]
end MQS
