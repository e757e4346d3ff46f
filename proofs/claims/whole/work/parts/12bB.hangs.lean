/-! ===== what hangs on itself ===== -/
def bs (n : Nat) (hd fi un : Nat → Int32) (on : Int32) (a : Nat) (p : Bool) (c : Nat) : Prop := ∃ k, k < n ∧ s_X2_bitOf on (nI k) = 1 ∧ hd k = nI a ∧ bt (if p = true then un k else fi k) c = true
def Cl (B : Nat → Bool → Nat → Prop) (a c : Nat) (p : Bool) : Prop := ∀ X : Nat → Bool → Prop, (∀ c p, B a p c → X c p) → (∀ b x c p, X b x → B b p c → X c (x ^^ p)) → X c p
theorem Cl_base {B : Nat → Bool → Nat → Prop} {a c : Nat} {p : Bool} (h : B a p c) : Cl B a c p := fun X h1 _ => h1 c p h
theorem Cl_step {B : Nat → Bool → Nat → Prop} {a b c : Nat} {x p : Bool} (h : Cl B a b x) (h2 : B b p c) : Cl B a c (x ^^ p) := fun X h1 h3 => h3 b x c p (h X h1 h3) h2
theorem Cl_trans {B : Nat → Bool → Nat → Prop} {a b c : Nat} {x p : Bool} (h : Cl B a b x) (h2 : Cl B b c p) : Cl B a c (x ^^ p) := h2 (fun c p => Cl B a c (x ^^ p)) (fun c p q => Cl_step h q) (fun b' y c p q1 q2 => by
  have := Cl_step q1 q2
  rw [Bool.xor_assoc] at this
  exact this)
def Dn (B : Nat → Bool → Nat → Prop) : Nat → Nat → Nat → Bool → Prop
  | 0, a, c, p => B a p c
  | t + 1, a, c, p => Dn B t a c p ∨ ∃ b x p', B a x b ∧ Dn B t b c p' ∧ p = (x ^^ p')
theorem Dn_up {B : Nat → Bool → Nat → Prop} {t a c : Nat} {p : Bool} (h : Dn B t a c p) : Dn B (t + 1) a c p := Or.inl h
theorem Dn_app {B : Nat → Bool → Nat → Prop} : ∀ {t a b c : Nat} {x p : Bool}, Dn B t a b x → B b p c → Dn B (t + 1) a c (x ^^ p)
  | 0, a, b, c, x, p, h, h2 => Or.inr ⟨b, x, p, h, h2, rfl⟩
  | t + 1, a, b, c, x, p, h, h2 => by
    rcases h with h | ⟨d, y, z, h3, h4, h5⟩
    · exact Or.inl (Dn_app h h2)
    · refine Or.inr ⟨d, y, z ^^ p, h3, Dn_app h4 h2, ?_⟩
      rw [h5, Bool.xor_assoc]
section HG
variable {n : Nat} {hd fi un : Nat → Int32}
theorem pu_bt (part : Nat → Int32) (heads on : Int32) : ∀ (m : Nat), ∀ i, i < 32 → (bt (itr (f_X0_partUnder__fi_6 hd part heads on) 0 m) i = true ↔ ∃ k, k < m ∧ s_X2_bitOf on (nI k) = 1 ∧ s_X2_bitOf heads (hd k) = 1 ∧ bt (part k) i = true)
  | 0, i, hi => by
    rw [itr_zero, b_0]
    exact ⟨fun h => absurd h (by decide), fun ⟨k, hk, _⟩ => absurd hk (Nat.not_lt_zero k)⟩
  | m + 1, i, hi => by
    have ih := pu_bt part heads on m i hi
    rw [itr_succ]
    generalize itr (f_X0_partUnder__fi_6 hd part heads on) 0 m = w at ih ⊢
    have same : (¬ (s_X2_bitOf on (nI m) = 1 ∧ s_X2_bitOf heads (hd m) = 1)) → (bt w i = true ↔ ∃ k, k < m + 1 ∧ s_X2_bitOf on (nI k) = 1 ∧ s_X2_bitOf heads (hd k) = 1 ∧ bt (part k) i = true) := by
      intro hno
      rw [ih]
      constructor
      · rintro ⟨k, hk, h⟩; exact ⟨k, by omega, h⟩
      · rintro ⟨k, hk, h⟩
        by_cases e : k = m
        · subst e; exact absurd ⟨h.1, h.2.1⟩ hno
        · exact ⟨k, by omega, h⟩
    unfold f_X0_partUnder__fi_6
    by_cases c1 : s_X2_bitOf on (nI m) = 1
    · rw [if_pos c1]
      by_cases c2 : s_X2_bitOf heads (hd m) = 1
      · rw [if_pos c2, b_or, Bool.or_eq_true, ih]
        constructor
        · rintro (⟨k, hk, h⟩ | h)
          · exact ⟨k, by omega, h⟩
          · exact ⟨m, by omega, c1, c2, h⟩
        · rintro ⟨k, hk, h⟩
          by_cases e : k = m
          · subst e; exact Or.inr h.2.2
          · exact Or.inl ⟨k, by omega, h⟩
      · rw [if_neg c2]; exact same (fun z => c2 z.2)
    · rw [if_neg c1]; exact same (fun z => c1 z.1)
theorem iu_bt (hh : Hok n hd) (heads on : Int32) (hv : V8 heads) {i : Nat} (hi : i < 32) : bt (s_X0_ifsUnder n hd fi heads on) i = true ↔ ∃ b, b < 8 ∧ bt heads b = true ∧ bs n hd fi un on b false i := by
  have h := pu_bt (hd := hd) fi heads on n i hi
  show bt (itr (f_X0_partUnder__fi_6 hd fi heads on) 0 n) i = true ↔ _
  rw [h]
  constructor
  · rintro ⟨k, hk, h1, h2, h3⟩
    obtain ⟨u, hu, eu⟩ := hh k hk
    rw [eu, bo_1 _ (by omega)] at h2
    have hu8 : u < 8 := by
      rcases Nat.lt_or_ge u 8 with z | z
      · exact z
      · rw [hv u z (by omega)] at h2; exact absurd h2 (by decide)
    exact ⟨u, hu8, h2, k, hk, h1, eu, h3⟩
  · rintro ⟨b, hb, h1, k, hk, h2, h3, h4⟩
    exact ⟨k, hk, h2, by rw [h3, bo_1 _ (by omega)]; exact h1, h4⟩
theorem uu_bt (hh : Hok n hd) (heads on : Int32) (hv : V8 heads) {i : Nat} (hi : i < 32) : bt (s_X0_unlessUnder n hd un heads on) i = true ↔ ∃ b, b < 8 ∧ bt heads b = true ∧ bs n hd fi un on b true i := by
  have h := pu_bt (hd := hd) un heads on n i hi
  show bt (itr (f_X0_partUnder__fi_6 hd un heads on) 0 n) i = true ↔ _
  rw [h]
  constructor
  · rintro ⟨k, hk, h1, h2, h3⟩
    obtain ⟨u, hu, eu⟩ := hh k hk
    rw [eu, bo_1 _ (by omega)] at h2
    have hu8 : u < 8 := by
      rcases Nat.lt_or_ge u 8 with z | z
      · exact z
      · rw [hv u z (by omega)] at h2; exact absurd h2 (by decide)
    exact ⟨u, hu8, h2, k, hk, h1, eu, h3⟩
  · rintro ⟨b, hb, h1, k, hk, h2, h3, h4⟩
    exact ⟨k, hk, h2, by rw [h3, bo_1 _ (by omega)]; exact h1, h4⟩
end HG
