theorem nsup : ∀ (x v w : Nat), w ||| v = v → w ||| x = x → v < x → (v + 1) ||| w ≤ x := by
  intro x
  induction x using Nat.strongRecOn with
  | ind x ih =>
    intro v w hv hx hlt
    have d1 : w / 2 ||| v / 2 = v / 2 := by rw [← Nat.or_div_two, hv]
    have d2 : w / 2 ||| x / 2 = x / 2 := by rw [← Nat.or_div_two, hx]
    have m1 := Nat.or_mod_two_eq_one (a := w) (b := v)
    have m2 := Nat.or_mod_two_eq_one (a := w) (b := x)
    rw [hv] at m1
    rw [hx] at m2
    have m3 := Nat.or_mod_two_eq_one (a := v + 1) (b := w)
    have d3 : ((v + 1) ||| w) / 2 = (v + 1) / 2 ||| w / 2 := Nat.or_div_two
    by_cases hw : w % 2 = 1
    · have a1 := m1.mpr (Or.inl hw)
      have a2 := m2.mpr (Or.inl hw)
      have h := ih (x / 2) (by omega) (v / 2) (w / 2) d1 d2 (by omega)
      rw [show (v + 1) / 2 = v / 2 + 1 by omega] at d3
      omega
    · by_cases hv2 : v % 2 = 1
      · have h := ih (x / 2) (by omega) (v / 2) (w / 2) d1 d2 (by omega)
        rw [show (v + 1) / 2 = v / 2 + 1 by omega] at d3
        have : ((v + 1) ||| w) % 2 ≠ 1 := fun q => (m3.mp q).elim (by omega) hw
        omega
      · rw [show (v + 1) / 2 = v / 2 by omega, Nat.or_comm (v / 2) (w / 2), d1] at d3
        omega
/-- the least of the fewest -/
def po (v : Nat) : Nat := (s_X3_ones (nI v)).toNatClampNeg
theorem po_ok : ∀ v : Nat, v < 1024 → s_X3_ones (nI v) = nI (po v) ∧ po v ≤ 10 := by
  unfold po
  decide +kernel
def Best (N : Nat) (Q : Nat → Prop) (R : Int32) : Prop := (R = -9 ∧ ∀ j, j < N → Q j → 4 ≤ po j) ∨ (∃ x, x < N ∧ R = nI x ∧ Q x ∧ po x ≤ 3 ∧ ∀ j, j < N → Q j → po x ≤ po j ∧ (po j = po x → x ≤ j))
theorem Best.eq {N : Nat} {Q : Nat → Prop} {R R' : Int32} (h : Best N Q R) (h' : Best N Q R') : R = R' := by
  rcases h with ⟨e, h⟩ | ⟨x, hx, e, q, o, h⟩ <;> rcases h' with ⟨e', h'⟩ | ⟨x', hx', e', q', o', h'⟩
  · rw [e, e']
  · have := h x' hx' q'; omega
  · have := h' x hx q; omega
  · have a := h x' hx' q'
    have b := h' x hx q
    have c := a.2 (by omega)
    have d := b.2 (by omega)
    rw [e, e', show x = x' by omega]
theorem best_it {A T : Nat → Int32} {f : Nat → Int32 → Int32} (hf : ∀ j b, f j b = (if 0 ≤ b then (if s_X3_ones b ≤ s_X3_ones (nI j) then (if A j = 0 then b else b) else (if A j = 0 then (if T j = 0 then b else nI j) else b)) else (if 4 ≤ s_X3_ones (nI j) then (if A j = 0 then b else b) else (if A j = 0 then (if T j = 0 then b else nI j) else b)))) : ∀ m : Nat, m ≤ 1024 → Best m (fun j => A j = 0 ∧ ¬ T j = 0) (itr f (-9) m)
  | 0, _ => Or.inl ⟨rfl, fun j hj => absurd hj (Nat.not_lt_zero j)⟩
  | m + 1, hm => by
    have ih := best_it hf m (by omega)
    rw [itr_succ]
    obtain ⟨om, om2⟩ := po_ok m (by omega)
    rcases ih with ⟨e, h⟩ | ⟨x, hx, e, q, o, h⟩
    · rw [e, hf, if_neg (show ¬ (0 : Int32) ≤ -9 by decide)]
      have keep : (A m = 0 → ¬ T m = 0 → 4 ≤ po m) → Best (m + 1) (fun j => A j = 0 ∧ ¬ T j = 0) (-9) := by
        intro z
        refine Or.inl ⟨rfl, fun j hj hq => ?_⟩
        by_cases ej : j = m
        · subst ej; exact z hq.1 hq.2
        · exact h j (by omega) hq
      by_cases c1 : (4 : Int32) ≤ s_X3_ones (nI m)
      · rw [if_pos c1]
        have c1' : 4 ≤ po m := by
          rw [om] at c1
          exact (nI_leI (a := 4) (b := po m) (by omega) (by omega)).mp c1
        have := keep (fun _ _ => c1')
        split <;> exact this
      · rw [if_neg c1]
        have c1' : po m ≤ 3 := by
          rw [om] at c1
          rcases Nat.lt_or_ge (po m) 4 with z | z
          · omega
          · exact absurd (nI_le (a := 4) (b := po m) z (by omega)) c1
        by_cases c2 : A m = 0
        · rw [if_pos c2]
          by_cases c3 : T m = 0
          · rw [if_pos c3]; exact keep (fun _ z => absurd c3 z)
          · rw [if_neg c3]
            refine Or.inr ⟨m, by omega, rfl, ⟨c2, c3⟩, c1', fun j hj hq => ?_⟩
            by_cases ej : j = m
            · subst ej; exact ⟨Nat.le_refl _, fun _ => Nat.le_refl _⟩
            · have := h j (by omega) hq
              exact ⟨by omega, fun _ => by omega⟩
        · rw [if_neg c2]; exact keep (fun z => absurd z c2)
    · obtain ⟨ox, ox2⟩ := po_ok x (by omega)
      rw [e, hf, if_pos (nI_pos' (by omega))]
      have keep : (A m = 0 → ¬ T m = 0 → po x ≤ po m) → Best (m + 1) (fun j => A j = 0 ∧ ¬ T j = 0) (nI x) := by
        intro z
        refine Or.inr ⟨x, by omega, rfl, q, o, fun j hj hq => ?_⟩
        by_cases ej : j = m
        · subst ej; exact ⟨z hq.1 hq.2, fun _ => by omega⟩
        · exact h j (by omega) hq
      by_cases c1 : s_X3_ones (nI x) ≤ s_X3_ones (nI m)
      · rw [if_pos c1]
        have c1' : po x ≤ po m := by
          rw [om, ox] at c1
          exact (nI_leI (by omega) (by omega)).mp c1
        have := keep (fun _ _ => c1')
        split <;> exact this
      · rw [if_neg c1]
        have c1' : po m < po x := by
          rw [om, ox] at c1
          rcases Nat.lt_or_ge (po m) (po x) with z | z
          · exact z
          · exact absurd (nI_le z (by omega)) c1
        by_cases c2 : A m = 0
        · rw [if_pos c2]
          by_cases c3 : T m = 0
          · rw [if_pos c3]; exact keep (fun _ z => absurd c3 z)
          · rw [if_neg c3]
            refine Or.inr ⟨m, by omega, rfl, ⟨c2, c3⟩, by omega, fun j hj hq => ?_⟩
            by_cases ej : j = m
            · subst ej; exact ⟨Nat.le_refl _, fun _ => Nat.le_refl _⟩
            · have := h j (by omega) hq
              exact ⟨by omega, fun _ => by omega⟩
        · rw [if_neg c2]; exact keep (fun z => absurd z c2)
/-! ===== some set with it ===== -/
theorem sup_bt {w x : Nat} (hw : w < 256) : w ||| x = x ↔ ∀ i, i < 32 → bt (nI w) i = true → bt (nI x) i = true := by
  constructor
  · intro h i hi q
    rw [b_nI hi] at q ⊢
    rw [← h, Nat.testBit_or, q]; rfl
  · intro h
    apply Nat.eq_of_testBit_eq
    intro i
    rw [Nat.testBit_or]
    cases e : w.testBit i
    · rfl
    · have hi : i < 32 := by
        rcases Nat.lt_or_ge i 32 with z | z
        · exact z
        · rw [Nat.testBit_lt_two_pow (Nat.lt_of_lt_of_le hw (Nat.le_trans (by omega) (Nat.pow_le_pow_right (n := 2) (by omega) z)))] at e
          exact absurd e (by decide)
      have := h i hi (by rw [b_nI hi]; exact e)
      rw [b_nI hi] at this
      rw [this]; rfl
section EX
variable {n : Nat} {hd fi un : Nat → Int32}
theorem sw_it {may on a facts : Int32} {w : Nat} (hw : w < 256) (ew : (facts ||| (1 <<< (a &&& 31))) = nI w) : ∀ m : Nat, m ≤ 256 → (itE (f_X2_standsWith_9 n may hd fi un on a facts) (nI w) m = .inl 1 ∧ ∃ x, x < 256 ∧ w ||| x = x ∧ ¬ s_X0_upholds n may hd fi un (nI x) on facts = 0) ∨ (itE (f_X2_standsWith_9 n may hd fi un on a facts) (nI w) m = .inl 0 ∧ ∀ x, x < 256 → w ||| x = x → s_X0_upholds n may hd fi un (nI x) on facts = 0) ∨ (∃ v, v < 512 ∧ m ≤ v ∧ w ||| v = v ∧ itE (f_X2_standsWith_9 n may hd fi un on a facts) (nI w) m = .inr (nI v) ∧ ∀ x, x < v → x < 256 → w ||| x = x → s_X0_upholds n may hd fi un (nI x) on facts = 0)
  | 0, _ => Or.inr (Or.inr ⟨w, by omega, by omega, Nat.or_self w, rfl, fun x hx _ q => by
      have := Nat.left_le_or (n := w) (m := x)
      omega⟩)
  | m + 1, hm => by
    rcases sw_it hw ew m (by omega) with ⟨e, h⟩ | ⟨e, h⟩ | ⟨v, hv, hmv, hwv, e, h⟩
    · exact Or.inl ⟨itE_stop e (m + 1) (by omega), h⟩
    · exact Or.inr (Or.inl ⟨itE_stop e (m + 1) (by omega), h⟩)
    · by_cases c1 : (255 : Int32) < nI v
      · right; left
        have hv2 : 255 < v := (nI_ltI (a := 255) (b := v) (by omega) (by omega)).mp c1
        refine ⟨itE_succ e (by unfold f_X2_standsWith_9; exact if_pos c1), fun x hx q => h x (by omega) hx q⟩
      · have hv2 : v ≤ 255 := by
          rcases Nat.lt_or_ge 255 v with z | z
          · exact absurd (nI_lt (a := 255) (b := v) z (by omega)) c1
          · exact z
        by_cases c2 : s_X0_upholds n may hd fi un (nI v) on facts = 0
        · right; right
          refine ⟨(v + 1) ||| w, Nat.or_lt_two_pow (n := 9) (by omega) (by omega), ?_, ?_, ?_, ?_⟩
          · have := Nat.left_le_or (n := v + 1) (m := w); omega
          · rw [Nat.or_comm w, Nat.or_assoc, Nat.or_self]
          · refine itE_succ e ?_
            unfold f_X2_standsWith_9
            refine (if_neg c1).trans ((if_pos c2).trans ?_)
            rw [ew, nI_1, nI_or]
          · intro x hx hx2 q
            by_cases ex : x = v
            · subst ex; exact c2
            · rcases Nat.lt_or_ge x v with z | z
              · exact h x z hx2 q
              · have := nsup x v w hwv q (by omega); omega
        · left
          refine ⟨itE_succ e (by unfold f_X2_standsWith_9; exact (if_neg c1).trans (if_neg c2)), v, by omega, hwv, c2⟩
theorem sw_iff {may on a facts : Int32} {w : Nat} (hw : w < 256) (ew : (facts ||| (1 <<< (a &&& 31))) = nI w) : s_X2_standsWith n may hd fi un on a facts = 0 ↔ ∀ x, x < 256 → w ||| x = x → s_X0_upholds n may hd fi un (nI x) on facts = 0 := by
  have h := sw_it (n := n) (hd := hd) (fi := fi) (un := un) (may := may) (on := on) hw ew 256 (Nat.le_refl _)
  unfold s_X2_standsWith
  rw [ew]
  rcases h with ⟨e, x, h1, h2, h3⟩ | ⟨e, h⟩ | ⟨v, hv, hmv, hwv, e, h⟩
  · rw [e]; exact ⟨fun q => absurd q (by decide), fun q => absurd (q x h1 h2) h3⟩
  · rw [e]; exact ⟨fun _ => h, fun _ => rfl⟩
  · rw [e]; exact ⟨fun _ x hx q => h x (by omega) hx q, fun _ => rfl⟩
theorem is_it {may on a facts : Int32} : ∀ m : Nat, m ≤ 256 → (itE (f_X3_isInSome_4 n hd fi un may on a facts) 255 m = .inl 1 ∧ ∃ x, x < 256 ∧ s_X2_bitOf (nI x) a = 1 ∧ ¬ s_X3_doesStand n hd fi un may (nI x) on facts = 0) ∨ (itE (f_X3_isInSome_4 n hd fi un may on a facts) 255 m = .inr (255 - nI m) ∧ ∀ x, 256 ≤ x + m → x < 256 → s_X2_bitOf (nI x) a = 1 → s_X3_doesStand n hd fi un may (nI x) on facts = 0)
  | 0, _ => Or.inr ⟨by rw [itE_zero, nI_0, Int32.sub_zero], fun x h1 h2 => by omega⟩
  | m + 1, hm => by
    rcases is_it m (by omega) with ⟨e, h⟩ | ⟨e, h⟩
    · exact Or.inl ⟨itE_stop e (m + 1) (by omega), h⟩
    · have e2 : (255 : Int32) - nI m = nI (255 - m) := pk_sub (a := 255) (b := m) (by omega)
      have more : (s_X2_bitOf (nI (255 - m)) a = 1 → s_X3_doesStand n hd fi un may (nI (255 - m)) on facts = 0) → ∀ x, 256 ≤ x + (m + 1) → x < 256 → s_X2_bitOf (nI x) a = 1 → s_X3_doesStand n hd fi un may (nI x) on facts = 0 := by
        intro z x h1 h2
        by_cases ex : x = 255 - m
        · subst ex; exact z
        · exact h x (by omega) h2
      by_cases c1 : s_X2_bitOf (nI (255 - m)) a = 1
      · by_cases c2 : s_X3_doesStand n hd fi un may (nI (255 - m)) on facts = 0
        · right
          refine ⟨itE_succ e ?_, more (fun _ => c2)⟩
          unfold f_X3_isInSome_4
          rw [← i_step, e2]
          exact (if_neg (fun q => (has_0 _ _).mp q c1)).trans (if_pos c2)
        · left
          refine ⟨itE_succ e ?_, 255 - m, by omega, c1, c2⟩
          unfold f_X3_isInSome_4
          rw [e2]
          exact (if_neg (fun q => (has_0 _ _).mp q c1)).trans (if_neg c2)
      · right
        refine ⟨itE_succ e ?_, more (fun q => absurd q c1)⟩
        unfold f_X3_isInSome_4
        rw [← i_step, e2]
        exact if_pos ((has_0 _ _).mpr c1)
theorem is_iff {may on a facts : Int32} : s_X3_isInSome n hd fi un may on a facts = 0 ↔ ∀ x, x < 256 → s_X2_bitOf (nI x) a = 1 → s_X3_doesStand n hd fi un may (nI x) on facts = 0 := by
  have h := is_it (n := n) (hd := hd) (fi := fi) (un := un) (may := may) (on := on) (a := a) (facts := facts) 256 (Nat.le_refl _)
  unfold s_X3_isInSome
  rcases h with ⟨e, x, h1, h2, h3⟩ | ⟨e, h⟩
  · rw [e]; exact ⟨fun q => absurd q (by decide), fun q => absurd (q x h1 h2) h3⟩
  · rw [e]; exact ⟨fun _ x hx q => h x (by omega) hx q, fun _ => rfl⟩
end EX
