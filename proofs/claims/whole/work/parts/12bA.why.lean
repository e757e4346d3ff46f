def FI (hd fi un : Nat → Int32) (came on ag : Int32) (k a : Nat) : Prop := s_X2_bitOf on (nI k) = 1 ∧ hd k = nI a ∧ (fi k &&& (came ^^^ (-1))) = 0 ∧ (un k &&& ag) = 0
section WY
variable {n : Nat} {hd fi un : Nat → Int32}
theorem wy_in (hh : Hok n hd) (on ag came : Int32) (r : Nat) (rd bb : Nat → Int32) : ∀ m : Nat, m ≤ n → ((itr (f_X3_grows_66 hd fi un on ag came r) (came, rd, bb) m).1 = itr (f_X0_nextRound_6 hd fi un came on ag) came m ∧ ∀ a, a < 8 → ((bt came a = true ∧ bt (itr (f_X3_grows_66 hd fi un on ag came r) (came, rd, bb) m).1 a = true ∧ (itr (f_X3_grows_66 hd fi un on ag came r) (came, rd, bb) m).2.1 a = rd a ∧ (itr (f_X3_grows_66 hd fi un on ag came r) (came, rd, bb) m).2.2 a = bb a) ∨ (bt came a = false ∧ (∀ k, k < m → ¬ FI hd fi un came on ag k a) ∧ bt (itr (f_X3_grows_66 hd fi un on ag came r) (came, rd, bb) m).1 a = false ∧ (itr (f_X3_grows_66 hd fi un on ag came r) (came, rd, bb) m).2.1 a = rd a ∧ (itr (f_X3_grows_66 hd fi un on ag came r) (came, rd, bb) m).2.2 a = bb a) ∨ (bt came a = false ∧ bt (itr (f_X3_grows_66 hd fi un on ag came r) (came, rd, bb) m).1 a = true ∧ ∃ x, x < m ∧ FI hd fi un came on ag x a ∧ (∀ k, k < x → ¬ FI hd fi un came on ag k a) ∧ (itr (f_X3_grows_66 hd fi un on ag came r) (came, rd, bb) m).2.1 a = nI (r + 1) ∧ (itr (f_X3_grows_66 hd fi un on ag came r) (came, rd, bb) m).2.2 a = nI x)))
  | 0, _ => by
    refine ⟨rfl, fun a ha => ?_⟩
    rw [itr_zero]
    cases e : bt came a
    · exact Or.inr (Or.inl ⟨rfl, fun k hk => absurd hk (Nat.not_lt_zero k), rfl, rfl, rfl⟩)
    · exact Or.inl ⟨rfl, rfl, rfl, rfl⟩
  | m + 1, hm => by
    obtain ⟨i1, i2⟩ := wy_in hh on ag came r rd bb m (by omega)
    rw [itr_succ, itr_succ]
    generalize itr (f_X3_grows_66 hd fi un on ag came r) (came, rd, bb) m = st at i1 i2 ⊢
    obtain ⟨thn, rd6, bb6⟩ := st
    dsimp only at i1 i2
    rw [← i1]
    obtain ⟨u, hu, eu⟩ := hh m (by omega)
    have hval : (f_X3_grows_66 hd fi un on ag came r m (thn, rd6, bb6)).1 = f_X0_nextRound_6 hd fi un came on ag m thn := by
      rw [← step_eq]
      unfold f_X3_grows_66 f_X3_grows__v_66
      dsimp only
      split
      · rfl
      · split
        · rfl
        · split
          · split
            · split <;> rfl
            · rfl
          · rfl
    refine ⟨hval, ?_⟩
    by_cases cF : ∃ v, v < 8 ∧ FI hd fi un came on ag m v
    · obtain ⟨v, hv8, f1, f2, f3, f4⟩ := cF
      have hne : ¬ hd m = 8 := by
        rw [f2]
        intro q
        have := (nI_eq (a := v) (b := 8) (by omega) (by omega)).mp q
        omega
      by_cases c5 : bt thn v = true
      · have e : f_X3_grows_66 hd fi un on ag came r m (thn, rd6, bb6) = (thn, rd6, bb6) := by
          unfold f_X3_grows_66
          dsimp only
          rw [if_neg (fun q => (has_0 _ _).mp q f1), if_neg hne, if_pos f4, if_pos f3, f2, if_neg (fun q => (has_0 _ _).mp q ((bo_1 _ (by omega)).mpr c5))]
        rw [e]
        intro a ha
        rcases i2 a ha with h | ⟨h1, h2, h3, h4⟩ | ⟨h1, h2, x, hx, h3⟩
        · exact Or.inl h
        · refine Or.inr (Or.inl ⟨h1, fun k hk => ?_, h3, h4⟩)
          by_cases ek : k = m
          · subst ek
            intro z
            have := (nI_eq (a := v) (b := a) (by omega) (by omega)).mp (f2.symm.trans z.2.1)
            subst this
            have h3' : bt thn v = false := h3
            rw [c5] at h3'
            exact absurd h3' (by decide)
          · exact h2 k (by omega)
        · exact Or.inr (Or.inr ⟨h1, h2, x, by omega, h3⟩)
      · have c5' : bt thn v = false := by
          cases q : bt thn v
          · rfl
          · exact absurd q c5
        have e : f_X3_grows_66 hd fi un on ag came r m (thn, rd6, bb6) = (thn ||| (1 <<< (nI v &&& 31)), upd rd6 v (nI (r + 1)), upd bb6 v (nI m)) := by
          unfold f_X3_grows_66
          dsimp only
          rw [if_neg (fun q => (has_0 _ _).mp q f1), if_neg hne, if_pos f4, if_pos f3, f2, if_pos ((has_0 _ _).mpr (fun q => c5 ((bo_1 _ (by omega)).mp q))), nI_clamp (by omega)]
        rw [e]
        intro a ha
        have hb : bt (thn ||| (1 <<< (nI v &&& 31))) a = (bt thn a || decide (a = v)) := by rw [b_or, b_one v (by omega) (by omega)]
        dsimp only
        by_cases ea : a = v
        · subst ea
          rw [hb, decide_eq_true rfl, Bool.or_true]
          have u1 : upd rd6 a (nI (r + 1)) a = nI (r + 1) := if_pos rfl
          have u2 : upd bb6 a (nI m) a = nI m := if_pos rfl
          rw [u1, u2]
          rcases i2 a ha with ⟨h1, h2, _⟩ | ⟨h1, h2, h3, h4⟩ | ⟨h1, h2, x, hx, h3⟩
          · rw [c5'] at h2; exact absurd h2 (by decide)
          · exact Or.inr (Or.inr ⟨h1, rfl, m, by omega, ⟨f1, f2, f3, f4⟩, h2, rfl, rfl⟩)
          · rw [c5'] at h2; exact absurd h2 (by decide)
        · rw [hb, decide_eq_false ea, Bool.or_false]
          have u1 : upd rd6 v (nI (r + 1)) a = rd6 a := if_neg ea
          have u2 : upd bb6 v (nI m) a = bb6 a := if_neg ea
          rw [u1, u2]
          rcases i2 a ha with h | ⟨h1, h2, h3, h4⟩ | ⟨h1, h2, x, hx, h3⟩
          · exact Or.inl h
          · refine Or.inr (Or.inl ⟨h1, fun k hk => ?_, h3, h4⟩)
            by_cases ek : k = m
            · subst ek
              intro z
              exact ea ((nI_eq (a := a) (b := v) (by omega) (by omega)).mp (z.2.1.symm.trans f2))
            · exact h2 k (by omega)
          · exact Or.inr (Or.inr ⟨h1, h2, x, by omega, h3⟩)
    · have e : f_X3_grows_66 hd fi un on ag came r m (thn, rd6, bb6) = (thn, rd6, bb6) := by
        unfold f_X3_grows_66
        dsimp only
        by_cases c1 : s_X2_bitOf on (nI m) = 1
        · rw [if_neg (fun q => (has_0 _ _).mp q c1)]
          by_cases c2 : hd m = 8
          · rw [if_pos c2]
          · rw [if_neg c2]
            by_cases c4 : (un m &&& ag) = 0
            · rw [if_pos c4]
              by_cases c3 : (fi m &&& (came ^^^ (-1))) = 0
              · have hu8 : u < 8 := by
                  have : u ≠ 8 := fun q => c2 (by rw [eu, q]; rfl)
                  omega
                exact absurd ⟨u, hu8, c1, eu, c3, c4⟩ cF
              · rw [if_neg c3]
            · rw [if_neg c4]
        · rw [if_pos ((has_0 _ _).mpr c1)]
      rw [e]
      intro a ha
      rcases i2 a ha with h | ⟨h1, h2, h3, h4⟩ | ⟨h1, h2, x, hx, h3⟩
      · exact Or.inl h
      · refine Or.inr (Or.inl ⟨h1, fun k hk => ?_, h3, h4⟩)
        by_cases ek : k = m
        · subst ek; exact fun z => cF ⟨a, ha, z⟩
        · exact h2 k (by omega)
      · exact Or.inr (Or.inr ⟨h1, h2, x, by omega, h3⟩)
theorem f52_eq (on ag came : Int32) (r : Nat) (rd bb : Nat → Int32) : f_X3_grows_52 n hd fi un on ag r (came, rd, bb) = itr (f_X3_grows_66 hd fi un on ag came r) (came, rd, bb) n := by
  unfold f_X3_grows_52
  dsimp only
theorem wy_out (hh : Hok n hd) (on ag F : Int32) (rd0 bb0 : Nat → Int32) : ∀ r : Nat, ((itr (f_X3_grows_52 n hd fi un on ag) (F, rd0, bb0) r).1 = itr (fun _ c => s_X0_nextRound n hd fi un c on ag) F r ∧ ∀ a, a < 8 → ((bt F a = true ∧ bt (itr (f_X3_grows_52 n hd fi un on ag) (F, rd0, bb0) r).1 a = true ∧ (itr (f_X3_grows_52 n hd fi un on ag) (F, rd0, bb0) r).2.1 a = rd0 a ∧ (itr (f_X3_grows_52 n hd fi un on ag) (F, rd0, bb0) r).2.2 a = bb0 a) ∨ (bt F a = false ∧ bt (itr (f_X3_grows_52 n hd fi un on ag) (F, rd0, bb0) r).1 a = false ∧ (∀ r', r' < r → ∀ k, k < n → ¬ FI hd fi un (itr (fun _ c => s_X0_nextRound n hd fi un c on ag) F r') on ag k a) ∧ (itr (f_X3_grows_52 n hd fi un on ag) (F, rd0, bb0) r).2.1 a = rd0 a ∧ (itr (f_X3_grows_52 n hd fi un on ag) (F, rd0, bb0) r).2.2 a = bb0 a) ∨ (bt F a = false ∧ bt (itr (f_X3_grows_52 n hd fi un on ag) (F, rd0, bb0) r).1 a = true ∧ ∃ r0 x, r0 < r ∧ x < n ∧ (∀ r', r' < r0 → ∀ k, k < n → ¬ FI hd fi un (itr (fun _ c => s_X0_nextRound n hd fi un c on ag) F r') on ag k a) ∧ FI hd fi un (itr (fun _ c => s_X0_nextRound n hd fi un c on ag) F r0) on ag x a ∧ (∀ k, k < x → ¬ FI hd fi un (itr (fun _ c => s_X0_nextRound n hd fi un c on ag) F r0) on ag k a) ∧ (itr (f_X3_grows_52 n hd fi un on ag) (F, rd0, bb0) r).2.1 a = nI (r0 + 1) ∧ (itr (f_X3_grows_52 n hd fi un on ag) (F, rd0, bb0) r).2.2 a = nI x)))
  | 0 => by
    refine ⟨rfl, fun a ha => ?_⟩
    rw [itr_zero]
    cases e : bt F a
    · exact Or.inr (Or.inl ⟨rfl, rfl, fun k hk => absurd hk (Nat.not_lt_zero k), rfl, rfl⟩)
    · exact Or.inl ⟨rfl, rfl, rfl, rfl⟩
  | r + 1 => by
    obtain ⟨i1, i2⟩ := wy_out hh on ag F rd0 bb0 r
    rw [itr_succ (f_X3_grows_52 n hd fi un on ag), itr_succ (fun _ c => s_X0_nextRound n hd fi un c on ag)]
    generalize itr (f_X3_grows_52 n hd fi un on ag) (F, rd0, bb0) r = st at i1 i2 ⊢
    obtain ⟨came, rd5, bb5⟩ := st
    dsimp only at i1 i2
    subst i1
    rw [f52_eq]
    obtain ⟨j1, j2⟩ := wy_in (fi := fi) (un := un) hh on ag (itr (fun _ c => s_X0_nextRound n hd fi un c on ag) F r) r rd5 bb5 n (Nat.le_refl n)
    refine ⟨j1, fun a ha => ?_⟩
    rcases i2 a ha with ⟨h1, h2, h3, h4⟩ | ⟨h1, h2, h3, h4, h5⟩ | ⟨h1, h2, r0, x, hr0, hx, h3, h4, h5, h6, h7⟩
    · rcases j2 a ha with ⟨k1, k2, k3, k4⟩ | ⟨k1, _⟩ | ⟨k1, _⟩
      · exact Or.inl ⟨h1, k2, k3.trans h3, k4.trans h4⟩
      · rw [h2] at k1; exact absurd k1 (by decide)
      · rw [h2] at k1; exact absurd k1 (by decide)
    · rcases j2 a ha with ⟨k1, _⟩ | ⟨k1, k2, k3, k4, k5⟩ | ⟨k1, k2, x, hx, k3, k4, k5, k6⟩
      · rw [h2] at k1; exact absurd k1 (by decide)
      · refine Or.inr (Or.inl ⟨h1, k3, fun r' hr' => ?_, k4.trans h4, k5.trans h5⟩)
        by_cases er : r' = r
        · subst er; exact k2
        · exact h3 r' (by omega)
      · exact Or.inr (Or.inr ⟨h1, k2, r, x, by omega, hx, h3, k3, k4, k5, k6⟩)
    · rcases j2 a ha with ⟨k1, k2, k3, k4⟩ | ⟨k1, _⟩ | ⟨k1, _⟩
      · exact Or.inr (Or.inr ⟨h1, k2, r0, x, by omega, hx, h3, h4, h5, k3.trans h6, k4.trans h7⟩)
      · rw [h2] at k1; exact absurd k1 (by decide)
      · rw [h2] at k1; exact absurd k1 (by decide)
theorem fr_iff (on ag came : Int32) (a : Nat) : (s_X0_firstRuleBringing n hd fi un (nI a) came on ag = -9 ∧ ∀ k, k < n → ¬ FI hd fi un came on ag k a) ∨ (∃ x, x < n ∧ FI hd fi un came on ag x a ∧ (∀ k, k < x → ¬ FI hd fi un came on ag k a) ∧ s_X0_firstRuleBringing n hd fi un (nI a) came on ag = nI x) := by
  have e : s_X0_firstRuleBringing n hd fi un (nI a) came on ag = onE (itE (fun j (_ : Unit) => if (s_X2_bitOf on (nI j) = 1 ∧ hd j = nI a ∧ (fi j &&& (came ^^^ (-1))) = 0 ∧ (un j &&& ag) = 0) then (.inl (nI j) : Int32 ⊕ Unit) else .inr ()) () n) (fun _ => -9) := by
    unfold s_X0_firstRuleBringing
    rw [itE_congr (g := fun j (_ : Unit) => if (s_X2_bitOf on (nI j) = 1 ∧ hd j = nI a ∧ (fi j &&& (came ^^^ (-1))) = 0 ∧ (un j &&& ag) = 0) then (.inl (nI j) : Int32 ⊕ Unit) else .inr ()) n (fun k hk u => ?_)]
    unfold f_X0_firstRuleBringing_3 s_X0_bodyHolds
    by_cases c1 : s_X2_bitOf on (nI k) = 1
    · rw [if_pos c1]
      by_cases c2 : hd k = nI a
      · rw [if_pos c2]
        by_cases c3 : (fi k &&& (came ^^^ (-1))) = 0
        · rw [if_pos c3]
          by_cases c4 : (un k &&& ag) = 0
          · rw [if_pos c4, if_neg (show ¬ (1 : Int32) = 0 by decide), if_pos ⟨c1, c2, c3, c4⟩]
          · rw [if_neg c4, if_pos rfl, if_neg (fun z => c4 z.2.2.2)]
        · rw [if_neg c3, if_pos rfl, if_neg (fun z => c3 z.2.2.1)]
      · rw [if_neg c2, if_neg (fun z => c2 z.2.1)]
    · rw [if_neg c1, if_neg (fun z => c1 z.1)]
  rw [e]
  rcases first_it (P := fun j => s_X2_bitOf on (nI j) = 1 ∧ hd j = nI a ∧ (fi j &&& (came ^^^ (-1))) = 0 ∧ (un j &&& ag) = 0) (fun j => nI j) n with ⟨z, h⟩ | ⟨x, hx, hp, h, z⟩
  · rw [z]; exact Or.inl ⟨rfl, h⟩
  · rw [z]; exact Or.inr ⟨x, hx, hp, h, rfl⟩
end WY
section WS
variable {n len : Nat} {on may asd kept : Int32} {hd fi un hdm fim unm by_ tx io ia kp ko ka : Nat → Int32}
theorem ss_it (i : Int32) : ∀ m : Nat, m ≤ 256 → ((∃ a, itE (f_X2_standingSet_4 n may hd fi un on asd i) 0 m = .inr a) ∨ (∃ j, j < 256 ∧ itE (f_X2_standingSet_4 n may hd fi un on asd i) 0 m = .inl (nI j) ∧ ¬ s_X0_upholds n may hd fi un (nI j) on asd = 0))
  | 0, _ => Or.inl ⟨0, rfl⟩
  | m + 1, hm => by
    rcases ss_it i m (by omega) with ⟨a, e⟩ | ⟨j, hj, e, h⟩
    · by_cases c1 : s_X0_upholds n may hd fi un (nI m) on asd = 0
      · exact Or.inl ⟨a, itE_succ e (by unfold f_X2_standingSet_4; exact if_pos c1)⟩
      · by_cases c2 : a = i
        · exact Or.inr ⟨m, by omega, itE_succ e (by unfold f_X2_standingSet_4; exact (if_neg c1).trans (if_pos c2)), c1⟩
        · exact Or.inl ⟨a + 1, itE_succ e (by unfold f_X2_standingSet_4; exact (if_neg c1).trans (if_neg c2))⟩
    · exact Or.inr ⟨j, hj, itE_stop e (m + 1) (by omega), h⟩
theorem ss_ok (i : Int32) : s_X2_standingSet n may hd fi un on asd i = -9 ∨ ∃ j, j < 256 ∧ s_X2_standingSet n may hd fi un on asd i = nI j ∧ ¬ s_X0_upholds n may hd fi un (nI j) on asd = 0 := by
  unfold s_X2_standingSet
  rcases ss_it (n := n) (may := may) (hd := hd) (fi := fi) (un := un) (on := on) (asd := asd) i 256 (Nat.le_refl _) with ⟨a, e⟩ | ⟨j, hj, e, h⟩
  · rw [e]; exact Or.inl rfl
  · rw [e]; exact Or.inr ⟨j, hj, rfl, h⟩
theorem wc_it (hn : n ≤ 10) {S what : Int32} {i : Int32} (hS : s_X2_standingSet n may hd fi un on asd i = S) (a : Nat) (F : Int32) : ∀ m : Nat, (itE (f_X2_why_87 n may hd fi un on asd i (nI a) what) F m = .inr (itr (fun _ c => s_X0_nextRound n hd fi un c on S) F m) ∧ ∀ r', r' < m → ∀ k, k < n → ¬ FI hd fi un (itr (fun _ c => s_X0_nextRound n hd fi un c on S) F r') on S k a) ∨ (∃ r0 x, r0 < m ∧ x < n ∧ (∀ r', r' < r0 → ∀ k, k < n → ¬ FI hd fi un (itr (fun _ c => s_X0_nextRound n hd fi un c on S) F r') on S k a) ∧ FI hd fi un (itr (fun _ c => s_X0_nextRound n hd fi un c on S) F r0) on S x a ∧ (∀ k, k < x → ¬ FI hd fi un (itr (fun _ c => s_X0_nextRound n hd fi un c on S) F r0) on S k a) ∧ itE (f_X2_why_87 n may hd fi un on asd i (nI a) what) F m = .inl (if what = 0 then nI (r0 + 1) else nI x))
  | 0 => Or.inl ⟨rfl, fun k hk => absurd hk (Nat.not_lt_zero k)⟩
  | m + 1 => by
    rcases wc_it hn (what := what) hS a F m with ⟨e, h⟩ | ⟨r0, x, h1, h2, h3, h4, h5, e⟩
    · rcases fr_iff (n := n) (hd := hd) (fi := fi) (un := un) on S (itr (fun _ c => s_X0_nextRound n hd fi un c on S) F m) a with ⟨z, h2⟩ | ⟨x, hx, h2, h3, z⟩
      · left
        refine ⟨itE_succ e ?_, fun r' hr' => ?_⟩
        · unfold f_X2_why_87
          rw [hS]
          exact if_pos z
        · by_cases er : r' = m
          · subst er; exact h2
          · exact h r' (by omega)
      · right
        refine ⟨m, x, by omega, hx, h, h2, h3, itE_succ e ?_⟩
        unfold f_X2_why_87
        dsimp only
        rw [hS, z]
        have n9 : ¬ nI x = -9 := by
          obtain ⟨h4, h5⟩ := h2
          intro q
          have w1 := congrArg (fun y => bt y 31) q
          try dsimp only at w1
          rw [b_nI (by omega)] at w1
          have w2 : bt (-9) 31 = true := by decide +kernel
          rw [w2] at w1
          rw [Nat.testBit_lt_two_pow (Nat.lt_of_lt_of_le (show x < 2 ^ 10 by omega) (pw (k := 10) (by omega)))] at w1
          exact absurd w1 (by decide)
        refine (if_neg n9).trans ?_
        by_cases cw : what = 0
        · rw [if_pos cw, if_pos cw]
        · rw [if_neg cw, if_neg cw]
    · exact Or.inr ⟨r0, x, by omega, h2, h3, h4, h5, itE_stop e (m + 1) (by omega)⟩
theorem gr_all (hR : Rel n len on may asd kept hd fi un hdm fim unm by_ tx io ia kp ko ka) (rd bb : Nat → Int32) (facts sme against : Int32) : s_X3_grows n hdm fim unm rd bb facts sme against = s_X3_grows n hd fi un rd bb facts sme against := by
  unfold s_X3_grows
  generalize itr (f_X3_grows_3 facts) (rd, bb) 8 = w
  obtain ⟨w1, w2⟩ := w
  dsimp only
  rw [itr_congr (f := f_X3_grows_52 n hdm fim unm sme against) (g := f_X3_grows_52 n hd fi un sme against) 8 (fun k hk a => ?_)]
  obtain ⟨a1, a2, a3⟩ := a
  rw [f52_eq, f52_eq]
  refine itr_congr n (fun j hj b => ?_)
  obtain ⟨e1, e2, e3⟩ := hR.cg j hj
  unfold f_X3_grows_66
  rw [e1, e2, e3]
theorem q_why (hR : Rel n len on may asd kept hd fi un hdm fim unm by_ tx io ia kp ko ka) (nw : Nat → Int32) (i a what : Int32) : s_X2_why n may hd fi un on asd i a what = s_X3_why n hdm fim unm may on asd nw i a what := by
  unfold s_X2_why s_X3_why
  by_cases c0 : i < 0
  · rw [if_pos c0, if_pos c0]
  · rw [if_neg c0, if_neg c0]
    by_cases c1 : s_X2_isSentence a = 0
    · rw [if_pos c1, if_pos ((isSent_eq a).mp c1)]
    · rw [if_neg c1, if_neg (fun q => c1 ((isSent_eq a).mpr q))]
      by_cases c2 : s_X2_isBit what = 0
      · rw [if_pos c2, if_pos ((isBit_eq what).mp c2)]
      · rw [if_neg c2, if_neg (fun q => c2 ((isBit_eq what).mpr q))]
        have es : s_X3_set n hdm fim unm may on asd nw i = s_X2_standingSet n may hd fi un on asd i := by
          rw [← q_set hR nw i]
          unfold s_X2_set
          exact if_pos (Int32.not_lt.mp c0)
        rw [es]
        obtain ⟨u, hu, rfl⟩ := isSent_of c1
        rcases ss_ok (n := n) (may := may) (hd := hd) (fi := fi) (un := un) (on := on) (asd := asd) i with e9 | ⟨j, hj, ej, hup⟩
        · rw [e9, if_pos rfl, if_pos rfl]
        · have wc := fun w : Int32 => wc_it (what := w) hR.hn ej u (asd ||| (may &&& nI j)) 8
          rw [ej]
          have n9 : ¬ nI j = -9 := by
            intro q
            have w1 := congrArg (fun y => bt y 31) q
            try dsimp only at w1
            rw [b_nI (by omega)] at w1
            have w2 : bt (-9) 31 = true := by decide +kernel
            rw [w2, Nat.testBit_lt_two_pow (Nat.lt_of_lt_of_le (show j < 2 ^ 10 by omega) (pw (k := 10) (by omega)))] at w1
            exact absurd w1 (by decide)
          rw [if_neg n9, if_neg n9]
          by_cases c3 : s_X2_bitOf (nI j) (nI u) = 0
          · rw [if_pos c3, if_pos ((has_0 _ _).mpr (fun q => by rw [c3] at q; exact absurd q (by decide)))]
          · rw [if_neg c3, if_neg (fun q => (has_0 _ _).mp q ((bo_n0 _ _).mp c3))]
            have hbit : bt (nI j) u = true := (bo_1 _ (by omega)).mp ((bo_n0 _ _).mp c3)
            unfold gRd gBy
            rw [gr_all hR, nI_clamp (by omega)]
            obtain ⟨u1, u2, u3⟩ := up_iff.mp hup
            rw [comes_it] at u3
            have g3 := grows_3_at (asd ||| (may &&& nI j)) ((fun _ => 0), (fun _ => 0)) 8 u hu
            unfold s_X3_grows
            generalize itr (f_X3_grows_3 (asd ||| (may &&& nI j))) ((fun _ => 0), (fun _ => 0)) 8 = w at g3 ⊢
            obtain ⟨w1, w2⟩ := w
            dsimp only at g3 ⊢
            obtain ⟨o1, o2⟩ := wy_out (fi := fi) (un := un) hR.hok on (nI j) (asd ||| (may &&& nI j)) w1 w2 8
            have o3 := o2 u hu
            rw [o1, u3] at o3
            generalize itr (f_X3_grows_52 n hd fi un on (nI j)) (asd ||| (may &&& nI j), w1, w2) 8 = v at o3 ⊢
            obtain ⟨v1, v2, v3⟩ := v
            dsimp only at o3 ⊢
            rcases o3 with ⟨h1, h2, h3, h4⟩ | ⟨h1, h2, _⟩ | ⟨h1, h2, r0, x, hr0, hx, h3, h4, h5, h6, h7⟩
            · have hb1 : s_X2_bitOf (asd ||| (may &&& nI j)) (nI u) = 1 := (bo_1 _ (by omega)).mpr h1
              rw [if_pos hb1, h3, h4, g3.1, g3.2, if_neg (fun q => (has_0 _ _).mp q hb1)]
            · rw [hbit] at h2; exact absurd h2 (by decide)
            · have hb1 : ¬ s_X2_bitOf (asd ||| (may &&& nI j)) (nI u) = 1 := fun q => by
                rw [bo_1 _ (by omega), h1] at q; exact absurd q (by decide)
              rw [if_neg hb1, h6, h7]
              rcases wc what with ⟨e, h⟩ | ⟨r1, y, k1, k2, k3, k4, k5, e⟩
              · exact absurd h4 (h r0 hr0 x hx)
              · have er : r1 = r0 := by
                  rcases Nat.lt_trichotomy r1 r0 with z | z | z
                  · exact absurd k4 (h3 r1 z y k2)
                  · exact z
                  · exact absurd h4 (k3 r0 z x hx)
                subst er
                have ex : y = x := by
                  rcases Nat.lt_trichotomy y x with z | z | z
                  · exact absurd k4 (h5 y z)
                  · exact z
                  · exact absurd h4 (k5 x z)
                subst ex
                rw [e]
                rfl
end WS
