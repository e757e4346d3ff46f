/-! ===== what hangs on itself: the reference's rows ===== -/
section HR
variable {n : Nat} {hd fi un : Nat → Int32}
def rw2 (s : (Nat → Int32) × (Nat → Int32)) (p : Bool) (a : Nat) : Int32 := if p = true then s.2 a else s.1 a
theorem upd_at (f : Nat → Int32) (j : Nat) (v : Int32) (i : Nat) : upd f j v i = if i = j then v else f i := by
  unfold upd
  rfl
theorem fh149 (ev od : Nat → Int32) (j : Nat) (e0 o0 : Int32) : ∀ (m : Nat), m ≤ 8 → ∀ c,
    (bt (itr (f_X3_findHangs_149 ev od j) (e0, o0) m).1 c = true ↔ (bt e0 c = true ∨ ∃ b, b < m ∧ ((bt (ev j) b = true ∧ bt (ev b) c = true) ∨ (bt (od j) b = true ∧ bt (od b) c = true)))) ∧
    (bt (itr (f_X3_findHangs_149 ev od j) (e0, o0) m).2 c = true ↔ (bt o0 c = true ∨ ∃ b, b < m ∧ ((bt (ev j) b = true ∧ bt (od b) c = true) ∨ (bt (od j) b = true ∧ bt (ev b) c = true))))
  | 0, _, c => by
    rw [itr_zero]
    exact ⟨⟨Or.inl, fun h => h.elim id (fun ⟨b, hb, _⟩ => absurd hb (Nat.not_lt_zero b))⟩, ⟨Or.inl, fun h => h.elim id (fun ⟨b, hb, _⟩ => absurd hb (Nat.not_lt_zero b))⟩⟩
  | m + 1, hm, c => by
    have ih := fh149 ev od j e0 o0 m (by omega) c
    rw [itr_succ]
    generalize itr (f_X3_findHangs_149 ev od j) (e0, o0) m = w at ih ⊢
    obtain ⟨e, o⟩ := w
    have he : ∀ (P : Nat → Prop), (∃ b, b < m + 1 ∧ P b) ↔ ((∃ b, b < m ∧ P b) ∨ P m) := by
      intro P
      constructor
      · rintro ⟨b, hb, h⟩
        by_cases q : b = m
        · rw [q] at h; exact Or.inr h
        · exact Or.inl ⟨b, by omega, h⟩
      · rintro (⟨b, hb, h⟩ | h)
        · exact ⟨b, by omega, h⟩
        · exact ⟨m, by omega, h⟩
    rw [he, he]
    have h1 := has_0 (ev j) (nI m)
    have h2 := has_0 (od j) (nI m)
    rw [bo_1 (ev j) (i := m) (by omega)] at h1
    rw [bo_1 (od j) (i := m) (by omega)] at h2
    unfold f_X3_findHangs_149
    rw [onP2_mk]
    have ih1 := ih.1
    have ih2 := ih.2
    dsimp only at ih1 ih2
    by_cases c1 : s_X3_has (ev j) (nI m) = 0
    · have g1 := h1.mp c1
      rw [if_pos c1]
      by_cases c2 : s_X3_has (od j) (nI m) = 0
      · have g2 := h2.mp c2
        rw [if_pos c2]
        dsimp only
        rw [show (0 : Int32) ||| 0 = 0 by decide, b_or, b_or, b_0, Bool.or_false, Bool.or_false, ih1, ih2]
        constructor
        · constructor
          · rintro (h | h)
            · exact Or.inl h
            · exact Or.inr (Or.inl h)
          · rintro (h | h | ⟨h, _⟩ | ⟨h, _⟩)
            · exact Or.inl h
            · exact Or.inr h
            · exact absurd h g1
            · exact absurd h g2
        · constructor
          · rintro (h | h)
            · exact Or.inl h
            · exact Or.inr (Or.inl h)
          · rintro (h | h | ⟨h, _⟩ | ⟨h, _⟩)
            · exact Or.inl h
            · exact Or.inr h
            · exact absurd h g1
            · exact absurd h g2
      · have g2 := Classical.not_not.mp (fun z => c2 (h2.mpr z))
        rw [if_neg c2]
        dsimp only
        rw [b_or, b_or, b_or, b_or, b_0, Bool.false_or, Bool.false_or, Bool.or_eq_true, Bool.or_eq_true, ih1, ih2]
        constructor
        · constructor
          · rintro ((h | h) | h)
            · exact Or.inl h
            · exact Or.inr (Or.inl h)
            · exact Or.inr (Or.inr (Or.inr ⟨g2, h⟩))
          · rintro (h | h | ⟨h, _⟩ | ⟨_, h⟩)
            · exact Or.inl (Or.inl h)
            · exact Or.inl (Or.inr h)
            · exact absurd h g1
            · exact Or.inr h
        · constructor
          · rintro ((h | h) | h)
            · exact Or.inl h
            · exact Or.inr (Or.inl h)
            · exact Or.inr (Or.inr (Or.inr ⟨g2, h⟩))
          · rintro (h | h | ⟨h, _⟩ | ⟨_, h⟩)
            · exact Or.inl (Or.inl h)
            · exact Or.inl (Or.inr h)
            · exact absurd h g1
            · exact Or.inr h
    · have g1 := Classical.not_not.mp (fun z => c1 (h1.mpr z))
      rw [if_neg c1]
      by_cases c2 : s_X3_has (od j) (nI m) = 0
      · have g2 := h2.mp c2
        rw [if_pos c2]
        dsimp only
        rw [b_or, b_or, b_or, b_or, b_0, Bool.or_false, Bool.or_false, Bool.or_eq_true, Bool.or_eq_true, ih1, ih2]
        constructor
        · constructor
          · rintro ((h | h) | h)
            · exact Or.inl h
            · exact Or.inr (Or.inl h)
            · exact Or.inr (Or.inr (Or.inl ⟨g1, h⟩))
          · rintro (h | h | ⟨_, h⟩ | ⟨h, _⟩)
            · exact Or.inl (Or.inl h)
            · exact Or.inl (Or.inr h)
            · exact Or.inr h
            · exact absurd h g2
        · constructor
          · rintro ((h | h) | h)
            · exact Or.inl h
            · exact Or.inr (Or.inl h)
            · exact Or.inr (Or.inr (Or.inl ⟨g1, h⟩))
          · rintro (h | h | ⟨_, h⟩ | ⟨h, _⟩)
            · exact Or.inl (Or.inl h)
            · exact Or.inl (Or.inr h)
            · exact Or.inr h
            · exact absurd h g2
      · have g2 := Classical.not_not.mp (fun z => c2 (h2.mpr z))
        rw [if_neg c2]
        dsimp only
        rw [b_or, b_or, b_or, b_or, Bool.or_eq_true, Bool.or_eq_true, Bool.or_eq_true, Bool.or_eq_true, ih1, ih2]
        constructor
        · constructor
          · rintro ((h | h) | h | h)
            · exact Or.inl h
            · exact Or.inr (Or.inl h)
            · exact Or.inr (Or.inr (Or.inl ⟨g1, h⟩))
            · exact Or.inr (Or.inr (Or.inr ⟨g2, h⟩))
          · rintro (h | h | ⟨_, h⟩ | ⟨_, h⟩)
            · exact Or.inl (Or.inl h)
            · exact Or.inl (Or.inr h)
            · exact Or.inr (Or.inl h)
            · exact Or.inr (Or.inr h)
        · constructor
          · rintro ((h | h) | h | h)
            · exact Or.inl h
            · exact Or.inr (Or.inl h)
            · exact Or.inr (Or.inr (Or.inl ⟨g1, h⟩))
            · exact Or.inr (Or.inr (Or.inr ⟨g2, h⟩))
          · rintro (h | h | ⟨_, h⟩ | ⟨_, h⟩)
            · exact Or.inl (Or.inl h)
            · exact Or.inl (Or.inr h)
            · exact Or.inr (Or.inl h)
            · exact Or.inr (Or.inr h)
theorem fh124_at (j : Nat) (s : (Nat → Int32) × (Nat → Int32)) (a : Nat) (p : Bool) (c : Nat) : bt (rw2 (f_X3_findHangs_124 j s) p a) c = true ↔ (bt (rw2 s p a) c = true ∨ (a = j ∧ ∃ b y x, b < 8 ∧ bt (rw2 s y j) b = true ∧ bt (rw2 s x b) c = true ∧ p = (y ^^ x))) := by
  obtain ⟨ev, od⟩ := s
  have h := fh149 ev od j (ev j) (od j) 8 (Nat.le_refl 8) c
  unfold f_X3_findHangs_124
  rw [onP2_mk]
  generalize itr (f_X3_findHangs_149 ev od j) (ev j, od j) 8 = w at h ⊢
  obtain ⟨e, o⟩ := w
  rw [onP2_mk]
  dsimp only at h
  cases p
  · show bt (upd ev j e a) c = true ↔ (bt (ev a) c = true ∨ _)
    rw [upd_at]
    by_cases q : a = j
    · rw [if_pos q, q, h.1]
      constructor
      · rintro (h | ⟨b, hb, ⟨h1, h2⟩ | ⟨h1, h2⟩⟩)
        · exact Or.inl h
        · exact Or.inr ⟨rfl, b, false, false, hb, h1, h2, rfl⟩
        · exact Or.inr ⟨rfl, b, true, true, hb, h1, h2, rfl⟩
      · rintro (h | ⟨_, b, y, x, hb, h1, h2, h3⟩)
        · exact Or.inl h
        · cases y <;> cases x
          · exact Or.inr ⟨b, hb, Or.inl ⟨h1, h2⟩⟩
          · exact absurd h3 (by decide)
          · exact absurd h3 (by decide)
          · exact Or.inr ⟨b, hb, Or.inr ⟨h1, h2⟩⟩
    · rw [if_neg q]
      exact ⟨Or.inl, fun z => z.elim id (fun z => absurd z.1 q)⟩
  · show bt (upd od j o a) c = true ↔ (bt (od a) c = true ∨ _)
    rw [upd_at]
    by_cases q : a = j
    · rw [if_pos q, q, h.2]
      constructor
      · rintro (h | ⟨b, hb, ⟨h1, h2⟩ | ⟨h1, h2⟩⟩)
        · exact Or.inl h
        · exact Or.inr ⟨rfl, b, false, true, hb, h1, h2, rfl⟩
        · exact Or.inr ⟨rfl, b, true, false, hb, h1, h2, rfl⟩
      · rintro (h | ⟨_, b, y, x, hb, h1, h2, h3⟩)
        · exact Or.inl h
        · cases y <;> cases x
          · exact absurd h3 (by decide)
          · exact Or.inr ⟨b, hb, Or.inl ⟨h1, h2⟩⟩
          · exact Or.inr ⟨b, hb, Or.inr ⟨h1, h2⟩⟩
          · exact absurd h3 (by decide)
    · rw [if_neg q]
      exact ⟨Or.inl, fun z => z.elim id (fun z => absurd z.1 q)⟩
def Snd (B : Nat → Bool → Nat → Prop) (s : (Nat → Int32) × (Nat → Int32)) : Prop := ∀ a, a < 8 → ∀ p c, bt (rw2 s p a) c = true → Cl B a c p
def Cpl (B : Nat → Bool → Nat → Prop) (t : Nat) (s : (Nat → Int32) × (Nat → Int32)) : Prop := ∀ a, a < 8 → ∀ p c, Dn B t a c p → bt (rw2 s p a) c = true
theorem fh124_it {B : Nat → Bool → Nat → Prop} (hB8 : ∀ a x c, B a x c → c < 8) {s : (Nat → Int32) × (Nat → Int32)} {t : Nat} (h1 : Snd B s) (h2 : Cpl B t s) : ∀ m : Nat, m ≤ 8 → Snd B (itr f_X3_findHangs_124 s m) ∧ Cpl B t (itr f_X3_findHangs_124 s m) ∧ ∀ a, a < m → ∀ p c, Dn B (t + 1) a c p → bt (rw2 (itr f_X3_findHangs_124 s m) p a) c = true
  | 0, _ => by
    rw [itr_zero]
    exact ⟨h1, h2, fun a ha => absurd ha (Nat.not_lt_zero a)⟩
  | m + 1, hm => by
    obtain ⟨i1, i2, i3⟩ := fh124_it hB8 h1 h2 m (by omega)
    rw [itr_succ]
    generalize itr f_X3_findHangs_124 s m = w at i1 i2 i3 ⊢
    refine ⟨?_, ?_, ?_⟩
    · intro a ha p c h
      rcases (fh124_at m w a p c).mp h with h | ⟨e, b, y, x, hb, g1, g2, g3⟩
      · exact i1 a ha p c h
      · rw [e, g3]
        exact Cl_trans (i1 m (by omega) y b g1) (i1 b hb x c g2)
    · intro a ha p c h
      exact (fh124_at m w a p c).mpr (Or.inl (i2 a ha p c h))
    · intro a ha p c h
      by_cases e : a = m
      · rcases h with h | ⟨b, x, p', g1, g2, g3⟩
        · exact (fh124_at m w a p c).mpr (Or.inl (i2 a (by omega) p c h))
        · have hb := hB8 _ _ _ g1
          refine (fh124_at m w a p c).mpr (Or.inr ⟨e, b, x, p', hb, ?_, i2 b hb p' c g2, g3⟩)
          rw [← e]
          exact i2 a (by omega) x b (Dn_le (t := 0) g1 (by omega))
      · exact (fh124_at m w a p c).mpr (Or.inl (i3 a (by omega) p c h))
theorem fh116_it {B : Nat → Bool → Nat → Prop} (hB8 : ∀ a x c, B a x c → c < 8) {s : (Nat → Int32) × (Nat → Int32)} (h1 : Snd B s) (h2 : Cpl B 0 s) : ∀ m : Nat, Snd B (itr f_X3_findHangs_116 s m) ∧ Cpl B m (itr f_X3_findHangs_116 s m)
  | 0 => by
    rw [itr_zero]
    exact ⟨h1, h2⟩
  | m + 1 => by
    obtain ⟨i1, i2⟩ := fh116_it hB8 h1 h2 m
    rw [itr_succ]
    generalize itr f_X3_findHangs_116 s m = w at i1 i2 ⊢
    obtain ⟨j1, j2, j3⟩ := fh124_it hB8 i1 i2 8 (Nat.le_refl 8)
    obtain ⟨ev, od⟩ := w
    unfold f_X3_findHangs_116
    rw [onP2_mk]
    generalize itr f_X3_findHangs_124 (ev, od) 8 = w at j1 j2 j3 ⊢
    obtain ⟨ev2, od2⟩ := w
    rw [onP2_mk]
    exact ⟨j1, fun a ha p c h => j3 a ha p c h⟩
theorem fh2_it (s : (Nat → Int32) × (Nat → Int32)) : ∀ m : Nat, ∀ a, a < m → ∀ p, rw2 (itr f_X3_findHangs_2 s m) p a = 0
  | 0, a, ha => absurd ha (Nat.not_lt_zero a)
  | m + 1, a, ha => by
    have ih := fh2_it s m a
    rw [itr_succ]
    generalize itr f_X3_findHangs_2 s m = w at ih ⊢
    obtain ⟨ev, od⟩ := w
    unfold f_X3_findHangs_2
    rw [onP2_mk]
    intro p
    cases p
    · show upd ev m 0 a = 0
      rw [upd_at]
      by_cases e : a = m
      · rw [if_pos e]
      · rw [if_neg e]; exact ih (by omega) false
    · show upd od m 0 a = 0
      rw [upd_at]
      by_cases e : a = m
      · rw [if_pos e]
      · rw [if_neg e]; exact ih (by omega) true
theorem nI_cl {u : Nat} (hu : u < 9) : (nI u).toNatClampNeg = u := by
  have : ∀ u : Nat, u < 9 → (nI u).toNatClampNeg = u := by decide +kernel
  exact this u hu
theorem fh30_it (hh : Hok n hd) (on alone : Int32) (un' : Nat → Int32) (hun : un' = if alone = 0 then un else fun _ => 0) {s : (Nat → Int32) × (Nat → Int32)} (h0 : ∀ a, a < 8 → ∀ p, rw2 s p a = 0) : ∀ m : Nat, m ≤ n → ∀ a, a < 8 → ∀ p c, (bt (rw2 (itr (f_X3_findHangs_30 hd fi un on alone) s m) p a) c = true ↔ ∃ k, k < m ∧ s_X2_bitOf on (nI k) = 1 ∧ hd k = nI a ∧ bt (if p = true then un' k else fi k) c = true)
  | 0, _, a, ha, p, c => by
    rw [itr_zero, h0 a ha p, b_0]
    exact ⟨fun h => absurd h (by decide), fun ⟨k, hk, _⟩ => absurd hk (Nat.not_lt_zero k)⟩
  | m + 1, hm, a, ha, p, c => by
    have ih := fh30_it hh on alone un' hun h0 m (by omega) a ha p c
    rw [itr_succ]
    generalize itr (f_X3_findHangs_30 hd fi un on alone) s m = w at ih ⊢
    have he : ∀ (P : Nat → Prop), (∃ b, b < m + 1 ∧ P b) ↔ ((∃ b, b < m ∧ P b) ∨ P m) := by
      intro P
      constructor
      · rintro ⟨b, hb, h⟩
        by_cases q : b = m
        · rw [q] at h; exact Or.inr h
        · exact Or.inl ⟨b, by omega, h⟩
      · rintro (⟨b, hb, h⟩ | h)
        · exact ⟨b, by omega, h⟩
        · exact ⟨m, by omega, h⟩
    rw [he, ← ih]
    obtain ⟨ev, od⟩ := w
    have hs := has_0 on (nI m)
    obtain ⟨u, hu, eu⟩ := hh m (by omega)
    unfold f_X3_findHangs_30
    rw [onP2_mk]
    by_cases c1 : s_X3_has on (nI m) = 0
    · rw [if_pos c1]
      exact ⟨Or.inl, fun z => z.elim id (fun z => absurd z.1 (hs.mp c1))⟩
    · have g1 := Classical.not_not.mp (fun z => c1 (hs.mpr z))
      rw [if_neg c1]
      by_cases c2 : hd m = 8
      · rw [if_pos c2]
        refine ⟨Or.inl, fun z => z.elim id (fun z => absurd z.2.1 ?_)⟩
        rw [c2]
        exact (show ∀ a, a < 8 → ¬ (8 : Int32) = nI a by decide +kernel) a ha
      · rw [if_neg c2, eu, nI_cl hu]
        have inj : ∀ a, a < 8 → (nI u = nI a ↔ a = u) := by
          intro a ha
          exact (show ∀ u, u < 9 → ∀ a, a < 8 → (nI u = nI a ↔ a = u) by decide +kernel) u hu a ha
        rw [inj a ha]
        have hz : (if alone = 0 then ((upd ev u (ev u ||| fi m)), (upd od u (od u ||| un m))) else ((upd ev u (ev u ||| fi m)), (upd od u (od u ||| 0)))) = ((upd ev u (ev u ||| fi m)), (upd od u (od u ||| un' m))) := by
          rw [hun]
          by_cases c3 : alone = 0
          · rw [if_pos c3, if_pos c3]
          · rw [if_neg c3, if_neg c3]
        rw [hz]
        cases p
        · show bt (upd ev u (ev u ||| fi m) a) c = true ↔ (bt (ev a) c = true ∨ s_X2_bitOf on (nI m) = 1 ∧ a = u ∧ bt (fi m) c = true)
          rw [upd_at]
          by_cases q : a = u
          · rw [if_pos q, q, b_or, Bool.or_eq_true]
            exact ⟨fun z => z.elim Or.inl (fun z => Or.inr ⟨g1, rfl, z⟩), fun z => z.elim Or.inl (fun z => Or.inr z.2.2)⟩
          · rw [if_neg q]
            exact ⟨Or.inl, fun z => z.elim id (fun z => absurd z.2.1 q)⟩
        · show bt (upd od u (od u ||| un' m) a) c = true ↔ (bt (od a) c = true ∨ s_X2_bitOf on (nI m) = 1 ∧ a = u ∧ bt (un' m) c = true)
          rw [upd_at]
          by_cases q : a = u
          · rw [if_pos q, q, b_or, Bool.or_eq_true]
            exact ⟨fun z => z.elim Or.inl (fun z => Or.inr ⟨g1, rfl, z⟩), fun z => z.elim Or.inl (fun z => Or.inr z.2.2)⟩
          · rw [if_neg q]
            exact ⟨Or.inl, fun z => z.elim id (fun z => absurd z.2.1 q)⟩
theorem fh_all (hh : Hok n hd) (hv : ∀ k, k < n → V8 (fi k) ∧ V8 (un k)) (on alone : Int32) (ev od : Nat → Int32) (un' : Nat → Int32) (hun : un' = if alone = 0 then un else fun _ => 0) : Snd (bs n hd fi un' on) (s_X3_findHangs n hd fi un on ev od alone) ∧ Cpl (bs n hd fi un' on) 16 (s_X3_findHangs n hd fi un on ev od alone) := by
  have hv' : ∀ k, k < n → V8 (fi k) ∧ V8 (un' k) := fun k hk => ⟨(hv k hk).1, by
    rw [hun]
    by_cases c3 : alone = 0
    · rw [if_pos c3]; exact (hv k hk).2
    · rw [if_neg c3]; exact V8_nI (v := 0) (by omega)⟩
  have h0 := fh2_it (ev, od) 8
  unfold s_X3_findHangs
  generalize itr f_X3_findHangs_2 (ev, od) 8 = w at h0 ⊢
  obtain ⟨ev2, od2⟩ := w
  rw [onP2_mk]
  have h1 := fh30_it (fi := fi) (un := un) hh on alone un' hun h0 n (Nat.le_refl n)
  generalize itr (f_X3_findHangs_30 hd fi un on alone) (ev2, od2) n = w at h1 ⊢
  obtain ⟨ev3, od3⟩ := w
  rw [onP2_mk]
  have h2 := fh116_it (B := bs n hd fi un' on) (bs_8 hv' on) (s := (ev3, od3)) (fun a ha p c z => Cl_base ((h1 a ha p c).mp z)) (fun a ha p c z => (h1 a ha p c).mpr z) 16
  generalize itr f_X3_findHangs_116 (ev3, od3) 16 = w at h2 ⊢
  obtain ⟨ev4, od4⟩ := w
  rw [onP2_mk]
  exact h2
theorem q_hangs {n len : Nat} {on may asd kept : Int32} {hd fi un hdm fim unm by_ tx io ia kp ko ka : Nat → Int32} (hR : Rel n len on may asd kept hd fi un hdm fim unm by_ tx io ia kp ko ka) (ev od : Nat → Int32) (what : Int32) : s_X2_hangs n hd fi un on what = s_X3_hangs n hdm fim unm on ev od what := by
  have cg := hR.2.1
  have hh : Hok n hd := fun k hk => vp_in_of (cg k hk).2.2.2.1 (by omega)
  have hhm : Hok n hdm := fun k hk => by rw [(cg k hk).1]; exact hh k hk
  have hv : ∀ k, k < n → V8 (fi k) ∧ V8 (un k) := fun k hk => ⟨V8_of (cg k hk).2.2.2.2.1, V8_of (cg k hk).2.2.2.2.2⟩
  have hvm : ∀ k, k < n → V8 (fim k) ∧ V8 (unm k) := fun k hk => by rw [(cg k hk).2.1, (cg k hk).2.2.1]; exact hv k hk
  have eb : ∀ un1 un2 : Nat → Int32, (∀ k, k < n → un1 k = un2 k) → bs n hdm fim un1 on = bs n hd fi un2 on := by
    intro un1 un2 hu
    funext a p c
    apply propext
    constructor
    · rintro ⟨k, hk, h1, h2, h3⟩
      rw [(cg k hk).1] at h2
      rw [(cg k hk).2.1, hu k hk] at h3
      exact ⟨k, hk, h1, h2, h3⟩
    · rintro ⟨k, hk, h1, h2, h3⟩
      rw [← (cg k hk).1] at h2
      rw [← (cg k hk).2.1, ← hu k hk] at h3
      exact ⟨k, hk, h1, h2, h3⟩
  unfold s_X2_hangs s_X3_hangs
  have hbit := isBit_eq what
  by_cases c : s_X2_isBit what = 0
  · rw [if_pos c, if_pos (hbit.mp c)]
  · rw [if_neg c, if_neg (fun z => c (hbit.mpr z))]
    by_cases c0 : what = 0
    · rw [if_pos c0]
      have hf := fh_all (fi := fim) (un := unm) hhm hvm on 1 ev od (fun _ => 0) (by rw [if_neg (show ¬ (1 : Int32) = 0 by decide)])
      rw [eb (fun _ => 0) (fun _ => 0) (fun _ _ => rfl)] at hf
      generalize s_X3_findHangs n hdm fim unm on ev od 1 = w at hf ⊢
      obtain ⟨ev1, od1⟩ := w
      rw [onP2_mk]
      show itr (f_X2_hangs_13 n hd fi un on what) 0 8 = itr (f_X3_hangs_29b ev1 od1 what) 0 8
      refine itr_congr 8 (fun a ha st => ?_)
      unfold f_X2_hangs_13 f_X3_hangs_29b
      rw [if_pos c0]
      have hb := hb_iff (fi := fi) hh (fun k hk => (hv k hk).1) on ha
      have hs := has_0 (ev1 a) (nI a)
      rw [bo_1 (ev1 a) (i := a) (by omega)] at hs
      by_cases q : s_X0_hangsByIf n hd fi (nI a) on = 0
      · have : ¬ bt (ev1 a) a = true := fun z => absurd q (hb.1.mpr (hf.1 a ha false a z))
        rw [if_pos q, if_pos (hs.mpr this)]
        exact b_ext (fun i _ => by rw [b_or, b_0, Bool.or_false])
      · have : bt (ev1 a) a = true := hf.2 a ha false a (hb.2 (hb.1.mp q))
        rw [if_neg q, if_neg (fun z => (hs.mp z) this)]
    · rw [if_neg c0]
      have hf := fh_all (fi := fim) (un := unm) hhm hvm on 0 ev od unm (by rw [if_pos rfl])
      rw [eb unm un (fun k hk => (cg k hk).2.2.1)] at hf
      generalize s_X3_findHangs n hdm fim unm on ev od 0 = w at hf ⊢
      obtain ⟨ev1, od1⟩ := w
      rw [onP2_mk]
      show itr (f_X2_hangs_13 n hd fi un on what) 0 8 = itr (f_X3_hangs_29 ev1 od1 what) 0 8
      refine itr_congr 8 (fun a ha st => ?_)
      unfold f_X2_hangs_13 f_X3_hangs_29
      rw [if_neg c0]
      have hb := tg_iff (fi := fi) (un := un) hh hv on ha
      have hs := has_0 (od1 a) (nI a)
      rw [bo_1 (od1 a) (i := a) (by omega)] at hs
      by_cases q : s_X0_isTangled n hd fi un (nI a) on = 0
      · have : ¬ bt (od1 a) a = true := fun z => absurd q (hb.1.mpr (hf.1 a ha true a z))
        rw [if_pos q, if_pos (hs.mpr this)]
        exact b_ext (fun i _ => by rw [b_or, b_0, Bool.or_false])
      · have : bt (od1 a) a = true := hf.2 a ha true a (hb.2 (hb.1.mp q))
        rw [if_neg q, if_neg (fun z => (hs.mp z) this)]
end HR
