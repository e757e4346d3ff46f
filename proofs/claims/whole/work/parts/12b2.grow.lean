/-! ===== iteration ===== -/
theorem itr_congr {α : Type} {f g : Nat → α → α} {s : α} : ∀ (n : Nat), (∀ k, k < n → ∀ a, f k a = g k a) → itr f s n = itr g s n
  | 0, _ => rfl
  | n + 1, h => by
    rw [itr_succ, itr_succ, itr_congr n (fun k hk a => h k (by omega) a)]
    exact h n (by omega) _
theorem itE_congr {α β : Type} {f g : Nat → α → β ⊕ α} {s : α} : ∀ (n : Nat), (∀ k, k < n → ∀ a, f k a = g k a) → itE f s n = itE g s n
  | 0, _ => rfl
  | n + 1, h => by
    show bnE (itE f s n) (f n) = bnE (itE g s n) (g n)
    rw [itE_congr n (fun k hk a => h k (by omega) a)]
    cases itE g s n with
    | inl b => rfl
    | inr a => exact h n (by omega) a
/-- to stop where nothing changes any more, or to go on: the same -/
theorem itE_brk {α β : Type} [DecidableEq α] (g : α → α) (r : α → β) (s : α) : ∀ N : Nat, (itE (fun _ c => if g c = c then (.inl (r c) : β ⊕ α) else .inr (g c)) s N = .inr (itr (fun _ => g) s N)) ∨ (itE (fun _ c => if g c = c then (.inl (r c) : β ⊕ α) else .inr (g c)) s N = .inl (r (itr (fun _ => g) s N)) ∧ g (itr (fun _ => g) s N) = itr (fun _ => g) s N)
  | 0 => Or.inl rfl
  | N + 1 => by
    rcases itE_brk g r s N with h | ⟨h, h2⟩
    · by_cases c : g (itr (fun _ => g) s N) = itr (fun _ => g) s N
      · right
        rw [itr_succ, c]
        exact ⟨itE_succ h (if_pos c), c⟩
      · left
        rw [itr_succ]
        exact itE_succ h (if_neg c)
    · right
      rw [itr_succ, h2]
      exact ⟨itE_stop h (N + 1) (by omega), h2⟩
theorem brk_it {α : Type} [DecidableEq α] (g : α → α) (s : α) (N : Nat) : onE (itE (fun _ c => if g c = c then (.inl c : α ⊕ α) else .inr (g c)) s N) (fun c => c) = itr (fun _ => g) s N := by
  rcases itE_brk g (fun c => c) s N with h | ⟨h, -⟩ <;> rw [h] <;> rfl
/-- how many of the first m -/
def cn (p : Nat → Bool) : Nat → Nat
  | 0 => 0
  | m + 1 => cn p m + (if p m = true then 1 else 0)
theorem cn_le (p : Nat → Bool) : ∀ m, cn p m ≤ m
  | 0 => Nat.le_refl 0
  | m + 1 => by
    have := cn_le p m
    unfold cn
    split <;> omega
theorem cn_mono {p q : Nat → Bool} : ∀ m, (∀ i, i < m → p i = true → q i = true) → cn p m ≤ cn q m
  | 0, _ => Nat.le_refl 0
  | m + 1, h => by
    have h1 := cn_mono m (fun i hi => h i (by omega))
    have h2 := h m (by omega)
    unfold cn
    by_cases c : p m = true
    · rw [if_pos c, if_pos (h2 c)]; omega
    · rw [if_neg c]; split <;> omega
theorem cn_lt {p q : Nat → Bool} : ∀ m, (∀ i, i < m → p i = true → q i = true) → (∃ i, i < m ∧ q i = true ∧ p i = false) → cn p m < cn q m
  | 0, _, ⟨i, hi, _⟩ => absurd hi (Nat.not_lt_zero i)
  | m + 1, h, ⟨i, hi, h3, h4⟩ => by
    have h1 := cn_mono m (fun i hi => h i (by omega))
    have h2 := h m (by omega)
    unfold cn
    by_cases e : i = m
    · subst e
      rw [h4, h3, if_pos rfl, if_neg (by decide)]
      omega
    · have h5 := cn_lt m (fun i hi => h i (by omega)) ⟨i, by omega, h3, h4⟩
      by_cases c : p m = true
      · rw [if_pos c, if_pos (h2 c)]; omega
      · rw [if_neg c]; split <;> omega
theorem cn_full {p : Nat → Bool} : ∀ m, m ≤ cn p m → ∀ i, i < m → p i = true
  | 0, _, i, hi => absurd hi (Nat.not_lt_zero i)
  | m + 1, h, i, hi => by
    have h1 := cn_le p m
    unfold cn at h
    by_cases c : p m = true
    · rw [if_pos c] at h
      by_cases e : i = m
      · subst e; exact c
      · exact cn_full m (by omega) i (by omega)
    · rw [if_neg c] at h; omega
/-- what only grows, among m things, stands still after m steps -/
theorem fixN {α : Type} [DecidableEq α] (m : Nat) (g : α → α) (B : α → Nat → Bool) (ok : α → Prop) (hext : ∀ a b, ok a → ok b → (∀ i, i < m → B a i = B b i) → a = b) (hok : ∀ a, ok a → ok (g a)) (hinf : ∀ a, ok a → ∀ i, i < m → B a i = true → B (g a) i = true) (s : α) (hs : ok s) : g (itr (fun _ => g) s m) = itr (fun _ => g) s m := by
  have hall : ∀ k, ok (itr (fun _ => g) s k) := fun k => by
    induction k with
    | zero => exact hs
    | succ k ih => exact hok _ ih
  have key : ∀ k, g (itr (fun _ => g) s k) = itr (fun _ => g) s k ∨ k ≤ cn (B (itr (fun _ => g) s k)) m := fun k => by
    induction k with
    | zero => exact Or.inr (Nat.zero_le _)
    | succ k ih =>
      rw [itr_succ]
      rcases ih with h | h
      · left; rw [h, h]
      · by_cases c : g (itr (fun _ => g) s k) = itr (fun _ => g) s k
        · left; rw [c, c]
        · right
          have : cn (B (itr (fun _ => g) s k)) m < cn (B (g (itr (fun _ => g) s k))) m := by
            refine cn_lt m (hinf _ (hall k)) (Classical.byContradiction (fun q => c (hext _ _ (hok _ (hall k)) (hall k) (fun i hi => ?_))))
            cases e1 : B (itr (fun _ => g) s k) i
            · cases e2 : B (g (itr (fun _ => g) s k)) i
              · rfl
              · exact absurd ⟨i, hi, e2, e1⟩ q
            · exact hinf _ (hall k) i hi e1
          omega
  rcases key m with h | h
  · exact h
  · have h2 := cn_full m h
    exact hext _ _ (hok _ (hall m)) (hall m) (fun i hi => by rw [h2 i hi]; exact hinf _ (hall m) i hi (h2 i hi))
theorem itr_fix {α : Type} {g : α → α} {s : α} {m : Nat} (h : g (itr (fun _ => g) s m) = itr (fun _ => g) s m) : ∀ j : Nat, itr (fun _ => g) s (m + j) = itr (fun _ => g) s m
  | 0 => rfl
  | j + 1 => by
    show g (itr (fun _ => g) s (m + j)) = _
    rw [itr_fix h j, h]
/-! ===== rounds ===== -/
theorem sh_red (h : Int32) : ∃ j : Nat, j < 32 ∧ h &&& 31 = nI j &&& 31 := by
  obtain ⟨j, hj, e⟩ := pk_andE h (m := 31) 5 rfl
  refine ⟨j, hj, e.trans ?_⟩
  exact (by decide +kernel : ∀ j : Nat, j < 32 → nI j = nI j &&& 31) j hj
theorem or_bit {x h : Int32} (c : s_X2_bitOf x h = 1) : x ||| (1 <<< (h &&& 31)) = x := by
  obtain ⟨j, hj, e⟩ := sh_red h
  have c2 : s_X2_bitOf x (nI j) = 1 := by
    unfold s_X2_bitOf at c ⊢
    rw [← e]; exact c
  rw [bo_1 x hj] at c2
  rw [e]
  apply b_ext
  intro i hi
  rw [b_or, b_one j hj hi]
  by_cases q : i = j
  · subst q; rw [c2]; rfl
  · rw [decide_eq_false q, Bool.or_false]
theorem step_eq (hd fi un : Nat → Int32) (sme against came : Int32) (k : Nat) (next : Int32) : f_X3_grows__v_66 hd fi un sme against came k next = f_X0_nextRound_6 hd fi un came sme against k next := by
  unfold f_X3_grows__v_66 f_X0_nextRound_6 s_X0_bodyHolds
  by_cases c1 : s_X2_bitOf sme (nI k) = 1
  · rw [if_neg (fun q => (has_0 _ _).mp q c1), if_pos c1]
    by_cases c2 : hd k = 8
    · rw [if_pos c2, if_pos c2]
    · rw [if_neg c2, if_neg c2]
      by_cases c3 : (fi k &&& (came ^^^ (-1))) = 0
      · rw [if_pos c3, if_pos c3]
        by_cases c4 : (un k &&& against) = 0
        · rw [if_pos c4, if_pos c4, if_neg (show ¬ (1 : Int32) = 0 by decide)]
          by_cases c5 : s_X2_bitOf next (hd k) = 1
          · rw [if_neg (fun q => (has_0 _ _).mp q c5), or_bit c5]
          · rw [if_pos ((has_0 _ _).mpr c5)]
        · rw [if_neg c4, if_neg c4, if_pos rfl]
      · rw [if_neg c3, if_neg c3, if_pos rfl]
        split <;> rfl
  · rw [if_pos ((has_0 _ _).mpr c1), if_neg c1]
theorem next_congr {n : Nat} {hd fi un hdm fim unm : Nat → Int32} (h : ∀ k, k < n → hdm k = hd k ∧ fim k = fi k ∧ unm k = un k) (came on against : Int32) : s_X0_nextRound n hdm fim unm came on against = s_X0_nextRound n hd fi un came on against := by
  unfold s_X0_nextRound
  refine itr_congr n (fun k hk a => ?_)
  obtain ⟨e1, e2, e3⟩ := h k hk
  unfold f_X0_nextRound_6 s_X0_bodyHolds
  rw [e1, e2, e3]
theorem grows_it (n : Nat) (hd fi un : Nat → Int32) (facts sme against : Int32) : s_X3_grows__v n hd fi un facts sme against = itr (fun _ c => s_X0_nextRound n hd fi un c sme against) facts 8 := by
  unfold s_X3_grows__v
  generalize itr (f_X3_grows__v_3 facts) () 8 = w
  cases w
  refine itr_congr 8 (fun k hk a => ?_)
  unfold f_X3_grows__v_52 s_X0_nextRound
  exact itr_congr n (fun j hj b => step_eq hd fi un sme against a j b)
theorem comes_it (n : Nat) (hd fi un : Nat → Int32) (start on against : Int32) : s_X0_comesOf n hd fi un start on against = itr (fun _ c => s_X0_nextRound n hd fi un c on against) start 8 := brk_it (fun c => s_X0_nextRound n hd fi un c on against) start 8
theorem grows_comes {n : Nat} {hd fi un hdm fim unm : Nat → Int32} (h : ∀ k, k < n → hdm k = hd k ∧ fim k = fi k ∧ unm k = un k) (facts sme against : Int32) : s_X3_grows__v n hdm fim unm facts sme against = s_X0_comesOf n hd fi un facts sme against := by
  rw [grows_it, comes_it]
  exact itr_congr 8 (fun k hk a => next_congr h a sme against)
/-! what a round brings, bit by bit -/
def Hok (n : Nat) (hd : Nat → Int32) : Prop := ∀ k, k < n → ∃ u : Nat, u < 9 ∧ hd k = nI u
theorem nr_bt {n : Nat} {hd fi un : Nat → Int32} (hh : Hok n hd) (came on against : Int32) : ∀ (m : Nat), m ≤ n → ∀ (next : Int32) (i : Nat), i < 32 → (bt (itr (f_X0_nextRound_6 hd fi un came on against) next m) i = true ↔ (bt next i = true ∨ ∃ k, k < m ∧ s_X2_bitOf on (nI k) = 1 ∧ hd k = nI i ∧ i < 8 ∧ (fi k &&& (came ^^^ (-1))) = 0 ∧ (un k &&& against) = 0))
  | 0, _, next, i, hi => ⟨fun h => Or.inl h, fun h => h.elim id (fun ⟨k, hk, _⟩ => absurd hk (Nat.not_lt_zero k))⟩
  | m + 1, hm, next, i, hi => by
    have ih := nr_bt (fi := fi) (un := un) hh came on against m (by omega) next i hi
    rw [itr_succ]
    generalize itr (f_X0_nextRound_6 hd fi un came on against) next m = w at ih ⊢
    obtain ⟨u, hu, eu⟩ := hh m (by omega)
    have same : ∀ q : Prop, (bt w i = true ↔ q) → (¬ (s_X2_bitOf on (nI m) = 1 ∧ hd m = nI i ∧ i < 8 ∧ (fi m &&& (came ^^^ (-1))) = 0 ∧ (un m &&& against) = 0)) → (bt w i = true ↔ (bt next i = true ∨ ∃ k, k < m + 1 ∧ s_X2_bitOf on (nI k) = 1 ∧ hd k = nI i ∧ i < 8 ∧ (fi k &&& (came ^^^ (-1))) = 0 ∧ (un k &&& against) = 0)) := by
      intro q _ hno
      rw [ih]
      constructor
      · rintro (h | ⟨k, hk, h⟩)
        · exact Or.inl h
        · exact Or.inr ⟨k, by omega, h⟩
      · rintro (h | ⟨k, hk, h⟩)
        · exact Or.inl h
        · by_cases e : k = m
          · subst e; exact absurd h hno
          · exact Or.inr ⟨k, by omega, h⟩
    unfold f_X0_nextRound_6 s_X0_bodyHolds
    by_cases c1 : s_X2_bitOf on (nI m) = 1
    · rw [if_pos c1]
      by_cases c2 : hd m = 8
      · rw [if_pos c2]
        refine same _ Iff.rfl (fun z => ?_)
        rw [c2] at z
        have := (nI_eq (a := 8) (b := i) (by omega) (by omega)).mp z.2.1
        omega
      · rw [if_neg c2]
        have hu8 : u < 8 := by
          have : u ≠ 8 := fun q => c2 (by rw [eu, q]; rfl)
          omega
        by_cases c3 : (fi m &&& (came ^^^ (-1))) = 0
        · rw [if_pos c3]
          by_cases c4 : (un m &&& against) = 0
          · rw [if_pos c4, if_neg (by decide), b_or, eu, b_one u (by omega) hi, Bool.or_eq_true, ih, decide_eq_true_eq]
            constructor
            · rintro ((h | ⟨k, hk, h⟩) | h)
              · exact Or.inl h
              · exact Or.inr ⟨k, by omega, h⟩
              · subst h; exact Or.inr ⟨m, by omega, c1, eu, hu8, c3, c4⟩
            · rintro (h | ⟨k, hk, h⟩)
              · exact Or.inl (Or.inl h)
              · by_cases e : k = m
                · subst e
                  have h2 := h.2.1
                  rw [eu] at h2
                  exact Or.inr ((nI_eq (by omega) (by omega)).mp h2).symm
                · exact Or.inl (Or.inr ⟨k, by omega, h⟩)
          · rw [if_neg c4, if_pos rfl]
            exact same _ Iff.rfl (fun z => c4 z.2.2.2.2)
        · rw [if_neg c3, if_pos rfl]
          exact same _ Iff.rfl (fun z => c3 z.2.2.2.1)
    · rw [if_neg c1]
      exact same _ Iff.rfl (fun z => c1 z.1)
