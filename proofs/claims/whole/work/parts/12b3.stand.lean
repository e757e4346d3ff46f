def V8 (x : Int32) : Prop := ∀ i, 8 ≤ i → i < 32 → bt x i = false
theorem V8_of {x : Int32} (h : vp_in x 256) : V8 x := by
  obtain ⟨v, hv, rfl⟩ := vp_in_of h (by omega)
  intro i h8 hi
  rw [b_nI hi]
  refine Nat.testBit_lt_two_pow (Nat.lt_of_lt_of_le hv ?_)
  exact Nat.pow_le_pow_right (n := 2) (by omega) h8
theorem V8_nI {v : Nat} (h : v < 256) : V8 (nI v) := V8_of (vp_in_nI h (by omega))
theorem V8_vp {x : Int32} (h : V8 x) : vp_in x 256 := by
  rw [nI_self x]
  refine vp_in_nI ?_ (by omega)
  refine Nat.lt_pow_two_of_testBit (n := 8) _ (fun i hi => ?_)
  rcases Nat.lt_or_ge i 32 with q | q
  · have := h i hi q
    unfold bt at this
    rwa [BitVec.getLsbD] at this
  · exact Nat.testBit_lt_two_pow (Nat.lt_of_lt_of_le x.toBitVec.isLt (Nat.pow_le_pow_right (by omega) q))
theorem V8_or {x y : Int32} (hx : V8 x) (hy : V8 y) : V8 (x ||| y) := fun i h1 h2 => by rw [b_or, hx i h1 h2, hy i h1 h2]; rfl
theorem V8_and {x : Int32} (hx : V8 x) (y : Int32) : V8 (x &&& y) := fun i h1 h2 => by rw [b_and, hx i h1 h2]; rfl
theorem V8_and2 {y : Int32} (x : Int32) (hy : V8 y) : V8 (x &&& y) := fun i h1 h2 => by rw [b_and, hy i h1 h2, Bool.and_false]
theorem V8_ext {x y : Int32} (hx : V8 x) (hy : V8 y) (h : ∀ i, i < 8 → bt x i = bt y i) : x = y := b_ext (fun i hi => by
  rcases Nat.lt_or_ge i 8 with q | q
  · exact h i q
  · rw [hx i q hi, hy i q hi])
section ST
variable {n : Nat} {hd fi un : Nat → Int32}
theorem nr_iff (hh : Hok n hd) (came on ag : Int32) {i : Nat} (hi : i < 32) : bt (s_X0_nextRound n hd fi un came on ag) i = true ↔ (bt came i = true ∨ ∃ k, k < n ∧ s_X2_bitOf on (nI k) = 1 ∧ hd k = nI i ∧ i < 8 ∧ (fi k &&& (came ^^^ (-1))) = 0 ∧ (un k &&& ag) = 0) := nr_bt hh came on ag n (Nat.le_refl n) came i hi
theorem nr_V8 (hh : Hok n hd) {came : Int32} (on ag : Int32) (h : V8 came) : V8 (s_X0_nextRound n hd fi un came on ag) := fun i h1 h2 => by
  cases e : bt (s_X0_nextRound n hd fi un came on ag) i
  · rfl
  · rcases (nr_iff hh came on ag h2).mp e with q | ⟨k, _, _, _, q, _⟩
    · rw [h i h1 h2] at q; exact absurd q (by decide)
    · omega
theorem nr_inf (hh : Hok n hd) (came on ag : Int32) {i : Nat} (hi : i < 32) (h : bt came i = true) : bt (s_X0_nextRound n hd fi un came on ag) i = true := (nr_iff hh came on ag hi).mpr (Or.inl h)
theorem it_V8 (hh : Hok n hd) (on ag : Int32) {s : Int32} (h : V8 s) : ∀ m : Nat, V8 (itr (fun _ c => s_X0_nextRound n hd fi un c on ag) s m)
  | 0 => h
  | m + 1 => nr_V8 hh on ag (it_V8 hh on ag h m)
theorem comes_V8 (hh : Hok n hd) {s : Int32} (on ag : Int32) (h : V8 s) : V8 (s_X0_comesOf n hd fi un s on ag) := by
  rw [comes_it]; exact it_V8 hh on ag h 8
theorem comes_fix (hh : Hok n hd) {s : Int32} (on ag : Int32) (h : V8 s) : s_X0_nextRound n hd fi un (s_X0_comesOf n hd fi un s on ag) on ag = s_X0_comesOf n hd fi un s on ag := by
  rw [comes_it]
  exact fixN 8 (fun c => s_X0_nextRound n hd fi un c on ag) bt V8 (fun a b ha hb q => V8_ext ha hb q) (fun a ha => nr_V8 hh on ag ha) (fun a _ i hi q => nr_inf hh a on ag (by omega) q) s h
theorem brk_bt (set on : Int32) : ∀ (m : Nat), m ≤ 32 → ∀ i, i < 32 → (bt (itr (f_X0_brokenBy_5 hd fi un set on) 0 m) i = true ↔ (i < m ∧ s_X2_bitOf on (nI i) = 1 ∧ s_X2_bitOf set (hd i) = 0 ∧ (fi i &&& (set ^^^ (-1))) = 0 ∧ (un i &&& set) = 0))
  | 0, _, i, hi => by
    rw [itr_zero, b_0]
    exact ⟨fun h => absurd h (by decide), fun h => absurd h.1 (Nat.not_lt_zero i)⟩
  | m + 1, hm, i, hi => by
    have ih := brk_bt set on m (by omega) i hi
    rw [itr_succ]
    generalize itr (f_X0_brokenBy_5 hd fi un set on) 0 m = w at ih ⊢
    have same : (¬ (s_X2_bitOf on (nI m) = 1 ∧ s_X2_bitOf set (hd m) = 0 ∧ (fi m &&& (set ^^^ (-1))) = 0 ∧ (un m &&& set) = 0)) → (bt w i = true ↔ (i < m + 1 ∧ s_X2_bitOf on (nI i) = 1 ∧ s_X2_bitOf set (hd i) = 0 ∧ (fi i &&& (set ^^^ (-1))) = 0 ∧ (un i &&& set) = 0)) := by
      intro hno
      rw [ih]
      constructor
      · rintro ⟨h1, h2⟩; exact ⟨by omega, h2⟩
      · rintro ⟨h1, h2⟩
        by_cases e : i = m
        · subst e; exact absurd h2 hno
        · exact ⟨by omega, h2⟩
    unfold f_X0_brokenBy_5 s_X0_bodyHolds
    by_cases c1 : s_X2_bitOf on (nI m) = 1
    · rw [if_pos c1]
      by_cases c2 : s_X2_bitOf set (hd m) = 0
      · rw [if_pos c2]
        by_cases c3 : (fi m &&& (set ^^^ (-1))) = 0
        · rw [if_pos c3]
          by_cases c4 : (un m &&& set) = 0
          · rw [if_pos c4, if_neg (show ¬ (1 : Int32) = 0 by decide), b_or, b_one m (by omega) hi, Bool.or_eq_true, ih, decide_eq_true_eq]
            constructor
            · rintro (⟨h1, h2⟩ | h)
              · exact ⟨by omega, h2⟩
              · subst h; exact ⟨by omega, c1, c2, c3, c4⟩
            · rintro ⟨h1, h2⟩
              by_cases e : i = m
              · exact Or.inr e
              · exact Or.inl ⟨by omega, h2⟩
          · rw [if_neg c4, if_pos rfl]; exact same (fun z => c4 z.2.2.2)
        · rw [if_neg c3, if_pos rfl]; exact same (fun z => c3 z.2.2.1)
      · rw [if_neg c2]; exact same (fun z => c2 z.2.1)
    · rw [if_neg c1]; exact same (fun z => c1 z.1)
theorem brk_iff (hn : n ≤ 10) (set on : Int32) {i : Nat} (hi : i < 32) : bt (s_X0_brokenBy n hd fi un set on) i = true ↔ (i < n ∧ s_X2_bitOf on (nI i) = 1 ∧ s_X2_bitOf set (hd i) = 0 ∧ (fi i &&& (set ^^^ (-1))) = 0 ∧ (un i &&& set) = 0) := brk_bt set on n (by omega) i hi
theorem brk_0 (hn : n ≤ 10) (set on : Int32) : s_X0_brokenBy n hd fi un set on = 0 ↔ ∀ k, k < n → ¬ (s_X2_bitOf on (nI k) = 1 ∧ s_X2_bitOf set (hd k) = 0 ∧ (fi k &&& (set ^^^ (-1))) = 0 ∧ (un k &&& set) = 0) := by
  constructor
  · intro h k hk q
    have := (brk_iff (fi := fi) (un := un) (hd := hd) hn set on (i := k) (by omega)).mpr ⟨hk, q⟩
    rw [h, b_0] at this
    exact absurd this (by decide)
  · intro h
    apply b_ext
    intro i hi
    rw [b_0]
    cases e : bt (s_X0_brokenBy n hd fi un set on) i
    · rfl
    · have := (brk_iff hn set on hi).mp e
      exact absurd this.2 (h i this.1)
theorem ban_it (set sme : Int32) : ∀ m : Nat, (itr (f_X3_isBanned_5 hd fi un set sme) 0 m = 0 ∧ ∀ k, k < m → ¬ (s_X2_bitOf sme (nI k) = 1 ∧ hd k = 8 ∧ (fi k &&& (set ^^^ (-1))) = 0 ∧ (un k &&& set) = 0)) ∨ (itr (f_X3_isBanned_5 hd fi un set sme) 0 m = 1 ∧ ∃ k, k < m ∧ s_X2_bitOf sme (nI k) = 1 ∧ hd k = 8 ∧ (fi k &&& (set ^^^ (-1))) = 0 ∧ (un k &&& set) = 0)
  | 0 => Or.inl ⟨rfl, fun k hk => absurd hk (Nat.not_lt_zero k)⟩
  | m + 1 => by
    rw [itr_succ]
    rcases ban_it set sme m with ⟨e, h⟩ | ⟨e, k, hk, h⟩
    · rw [e]
      have no : (¬ (s_X2_bitOf sme (nI m) = 1 ∧ hd m = 8 ∧ (fi m &&& (set ^^^ (-1))) = 0 ∧ (un m &&& set) = 0)) → ∀ k, k < m + 1 → ¬ (s_X2_bitOf sme (nI k) = 1 ∧ hd k = 8 ∧ (fi k &&& (set ^^^ (-1))) = 0 ∧ (un k &&& set) = 0) := by
        intro hno k hk
        by_cases q : k = m
        · subst q; exact hno
        · exact h k (by omega)
      unfold f_X3_isBanned_5
      rw [if_pos rfl]
      by_cases c1 : s_X2_bitOf sme (nI m) = 1
      · rw [if_neg (fun q => (has_0 _ _).mp q c1)]
        by_cases c2 : hd m = 8
        · rw [if_pos c2]
          by_cases c3 : (fi m &&& (set ^^^ (-1))) = 0
          · rw [if_pos c3]
            by_cases c4 : (un m &&& set) = 0
            · rw [if_pos c4]; exact Or.inr ⟨rfl, m, by omega, c1, c2, c3, c4⟩
            · rw [if_neg c4]; exact Or.inl ⟨rfl, no (fun z => c4 z.2.2.2)⟩
          · rw [if_neg c3]; exact Or.inl ⟨rfl, no (fun z => c3 z.2.2.1)⟩
        · rw [if_neg c2]; exact Or.inl ⟨rfl, no (fun z => c2 z.2.1)⟩
      · rw [if_pos ((has_0 _ _).mpr c1)]; exact Or.inl ⟨rfl, no (fun z => c1 z.1)⟩
    · rw [e]
      unfold f_X3_isBanned_5
      rw [if_neg (show ¬ (1 : Int32) = 0 by decide)]
      exact Or.inr ⟨rfl, k, by omega, h⟩
theorem ban_0 (set sme : Int32) : s_X3_isBanned n hd fi un set sme = 0 ↔ ∀ k, k < n → ¬ (s_X2_bitOf sme (nI k) = 1 ∧ hd k = 8 ∧ (fi k &&& (set ^^^ (-1))) = 0 ∧ (un k &&& set) = 0) := by
  have h := ban_it (hd := hd) (fi := fi) (un := un) set sme n
  show itr (f_X3_isBanned_5 hd fi un set sme) 0 n = 0 ↔ _
  rcases h with ⟨e, h⟩ | ⟨e, k, hk, h⟩
  · exact ⟨fun _ => h, fun _ => e⟩
  · rw [e]; exact ⟨fun q => absurd q (by decide), fun q => absurd h (q k hk)⟩
theorem ban_congr {hdm fim unm : Nat → Int32} (h : ∀ k, k < n → hdm k = hd k ∧ fim k = fi k ∧ unm k = un k) (set sme : Int32) : s_X3_isBanned n hdm fim unm set sme = s_X3_isBanned n hd fi un set sme := by
  unfold s_X3_isBanned
  refine itr_congr n (fun k hk a => ?_)
  obtain ⟨e1, e2, e3⟩ := h k hk
  unfold f_X3_isBanned_5
  rw [e1, e2, e3]
/-- the class's 'upholds' is the reference's 'doesStand' -/
theorem stand_eq {hdm fim unm : Nat → Int32} (hn : n ≤ 10) (hh : Hok n hd) (h : ∀ k, k < n → hdm k = hd k ∧ fim k = fi k ∧ unm k = un k) {may set asd : Int32} (on : Int32) (hs : V8 set) (ha : V8 asd) : s_X0_upholds n may hd fi un set on asd = s_X3_doesStand n hdm fim unm may set on asd := by
  unfold s_X0_upholds s_X3_doesStand
  rw [grows_comes h, ban_congr h]
  by_cases c1 : (asd &&& (set ^^^ (-1))) = 0
  · rw [if_pos c1, if_pos c1]
    by_cases c2 : s_X0_comesOf n hd fi un (asd ||| (may &&& set)) on set = set
    · rw [if_pos c2]
      have hfix := comes_fix (fi := fi) (un := un) hh on set (s := asd ||| (may &&& set)) (V8_or ha (V8_and2 _ hs))
      rw [c2] at hfix
      have key : s_X0_brokenBy n hd fi un set on = 0 ↔ s_X3_isBanned n hd fi un set on = 0 := by
        rw [brk_0 hn, ban_0]
        constructor
        · intro q k hk ⟨z1, z2, z3, z4⟩
          refine q k hk ⟨z1, ?_, z3, z4⟩
          rw [z2]
          exact (bo_0 set (i := 8) (by omega)).mpr (hs 8 (by omega) (by omega))
        · intro q k hk ⟨z1, z2, z3, z4⟩
          by_cases e : hd k = 8
          · exact q k hk ⟨z1, e, z3, z4⟩
          · obtain ⟨u, hu, eu⟩ := hh k hk
            have hu8 : u < 8 := by
              have : u ≠ 8 := fun z => e (by rw [eu, z]; rfl)
              omega
            rw [eu, bo_0 set (by omega)] at z2
            have := (nr_iff (fi := fi) (un := un) hh set on set (i := u) (by omega)).mpr (Or.inr ⟨k, hk, z1, eu, hu8, z3, z4⟩)
            rw [hfix, z2] at this
            exact absurd this (by decide)
      by_cases c3 : s_X0_brokenBy n hd fi un set on = 0
      · rw [if_pos c3, if_pos (key.mp c3)]
      · rw [if_neg c3, if_neg (fun q => c3 (key.mpr q))]
    · rw [if_neg c2]
      split <;> split <;> rfl
  · rw [if_neg c1, if_neg c1]
theorem up_01 (may set on asd : Int32) : s_X0_upholds n may hd fi un set on asd = 0 ∨ s_X0_upholds n may hd fi un set on asd = 1 := by
  unfold s_X0_upholds
  split
  · split
    · split
      · exact Or.inr rfl
      · exact Or.inl rfl
    · exact Or.inl rfl
  · exact Or.inl rfl
end ST
section SR
variable {n len : Nat} {on may asd kept : Int32} {hd fi un hdm fim unm by_ tx io ia kp ko ka : Nat → Int32}
theorem Rel.hok (h : Rel n len on may asd kept hd fi un hdm fim unm by_ tx io ia kp ko ka) : Hok n hd := fun k hk => vp_in_of (h.2.1 k hk).2.2.2.1 (by omega)
theorem Rel.cg (h : Rel n len on may asd kept hd fi un hdm fim unm by_ tx io ia kp ko ka) : ∀ k, k < n → hdm k = hd k ∧ fim k = fi k ∧ unm k = un k := fun k hk => ⟨(h.2.1 k hk).1, (h.2.1 k hk).2.1, (h.2.1 k hk).2.2.1⟩
theorem Rel.va (h : Rel n len on may asd kept hd fi un hdm fim unm by_ tx io ia kp ko ka) : V8 asd := V8_of h.hasd
theorem Rel.vm (h : Rel n len on may asd kept hd fi un hdm fim unm by_ tx io ia kp ko ka) : V8 may := V8_of h.1.2.2.2.1
theorem Rel.st (h : Rel n len on may asd kept hd fi un hdm fim unm by_ tx io ia kp ko ka) {j : Nat} (hj : j < 256) (on' : Int32) {asd' : Int32} (ha : V8 asd') : s_X0_upholds n may hd fi un (nI j) on' asd' = s_X3_doesStand n hdm fim unm may (nI j) on' asd' := stand_eq h.hn h.hok h.cg on' (V8_nI hj) ha
theorem q_stands (hR : Rel n len on may asd kept hd fi un hdm fim unm by_ tx io ia kp ko ka) (set : Int32) : s_X2_stands n may hd fi un on asd set = s_X3_stands n hdm fim unm may on asd set := by
  unfold s_X2_stands s_X3_stands
  by_cases c : s_X2_isSet set = 0
  · rw [if_pos c, if_pos ((isSet_eq set).mp c)]
  · rw [if_neg c, if_neg (fun q => c ((isSet_eq set).mpr q))]
    obtain ⟨u, hu, rfl⟩ := isSet_of c
    rw [hR.st hu on hR.va]
theorem q_holds (hR : Rel n len on may asd kept hd fi un hdm fim unm by_ tx io ia kp ko ka) (what : Int32) : s_X2_holds n may hd fi un on asd what = s_X3_holds n hdm fim unm may on asd what := by
  unfold s_X2_holds s_X3_holds
  by_cases c : s_X2_isBit what = 0
  · rw [if_pos c, if_pos ((isBit_eq what).mp c)]
  · rw [if_neg c, if_neg (fun q => c ((isBit_eq what).mpr q))]
    have key : ∀ m : Nat, m ≤ 256 → (itr (f_X2_holds_18 n may hd fi un on asd) (0, 255) m = itr (f_X3_holds_21 n hdm fim unm may on asd) (0, 255) m ∧ V8 (itr (f_X2_holds_18 n may hd fi un on asd) (0, 255) m).2) := by
      intro m
      induction m with
      | zero => intro _; exact ⟨rfl, V8_nI (v := 255) (by omega)⟩
      | succ m ih =>
        intro hm
        obtain ⟨i1, i2⟩ := ih (by omega)
        rw [itr_succ, itr_succ, ← i1]
        generalize itr (f_X2_holds_18 n may hd fi un on asd) (0, 255) m = w at i2 ⊢
        obtain ⟨w1, w2⟩ := w
        unfold f_X2_holds_18 f_X3_holds_21
        dsimp only at i2 ⊢
        rw [hR.st (show m < 256 by omega) on hR.va]
        have e0 : w1 ||| 0 = w1 := by
          apply b_ext; intro i hi; rw [b_or, b_0, Bool.or_false]
        have e1 : w2 &&& 255 = w2 := by
          apply b_ext; intro i hi
          rw [b_and, b_255]
          rcases Nat.lt_or_ge i 8 with q | q
          · rw [decide_eq_true q, Bool.and_true]
          · rw [i2 i q hi]; rfl
        by_cases c2 : s_X3_doesStand n hdm fim unm may (nI m) on asd = 0
        · rw [if_pos c2, if_pos c2]
          exact ⟨by first | (rw [e0, e1]; done) | (simp only [e0, e1]; done), i2⟩
        · rw [if_neg c2, if_neg c2]
          exact ⟨rfl, V8_and i2 _⟩
    rw [(key 256 (Nat.le_refl _)).1]
end SR
