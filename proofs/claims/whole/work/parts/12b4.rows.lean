theorem ix_div {j : Nat} (h : j < 256) : ((nI j / 32) : Int32).toNatClampNeg = j / 32 := by
  have e : nI j / 32 = nI (j / 32) := pk_div (a := j) (d := 32) (by omega) (by omega) (by omega)
  rw [e, nI_clamp (by omega)]
theorem ix_rem {j : Nat} (h : j < 256) : nI j - nI j / 32 * 32 = nI (j % 32) := pk_rem (a := j) (d := 32) (by omega) (by omega) (by omega)
section RW
variable {n : Nat} {hd fi un : Nat → Int32} {may sme facts : Int32}
theorem fa6_it (w : Nat → Int32) : ∀ m i : Nat, i < m → itr f_X3_findAll__nw_6 w m i = 0
  | 0, i, h => absurd h (Nat.not_lt_zero i)
  | m + 1, i, h => by
    rw [itr_succ]
    show upd (itr f_X3_findAll__nw_6 w m) m 0 i = 0
    unfold upd
    by_cases e : i = m
    · rw [if_pos e]
    · rw [if_neg e]; exact fa6_it w m i (by omega)
theorem fa_bt {w : Nat → Int32} (hw : ∀ i, i < 8 → w i = 0) : ∀ m : Nat, m ≤ 256 → ∀ j, j < 256 → (bt ((itr (f_X3_findAll__nw_27 n hd fi un may sme facts) (0, w) m).2 (j / 32)) (j % 32) = true ↔ (j < m ∧ ¬ s_X3_doesStand n hd fi un may (nI j) sme facts = 0))
  | 0, _, j, hj => by
    rw [itr_zero]
    show bt (w (j / 32)) (j % 32) = true ↔ _
    rw [hw _ (by omega), b_0]
    exact ⟨fun h => absurd h (by decide), fun h => absurd h.1 (Nat.not_lt_zero j)⟩
  | m + 1, hm, j, hj => by
    have ih := fa_bt hw m (by omega) j hj
    rw [itr_succ]
    generalize itr (f_X3_findAll__nw_27 n hd fi un may sme facts) (0, w) m = st at ih ⊢
    obtain ⟨c, r⟩ := st
    unfold f_X3_findAll__nw_27
    dsimp only at ih ⊢
    by_cases c1 : s_X3_doesStand n hd fi un may (nI m) sme facts = 0
    · rw [if_pos c1]
      dsimp only
      rw [ih]
      constructor
      · rintro ⟨h1, h2⟩; exact ⟨by omega, h2⟩
      · rintro ⟨h1, h2⟩
        by_cases e : j = m
        · subst e; exact absurd c1 h2
        · exact ⟨by omega, h2⟩
    · rw [if_neg c1]
      dsimp only
      rw [ix_div (show m < 256 by omega), ix_rem (show m < 256 by omega)]
      unfold upd
      by_cases e : j / 32 = m / 32
      · rw [if_pos e, ← e, b_or, b_one (m % 32) (by omega) (by omega), Bool.or_eq_true, ih, decide_eq_true_eq]
        constructor
        · rintro (⟨h1, h2⟩ | h)
          · exact ⟨by omega, h2⟩
          · have : j = m := by omega
            subst this; exact ⟨by omega, c1⟩
        · rintro ⟨h1, h2⟩
          by_cases q : j = m
          · exact Or.inr (by rw [q])
          · exact Or.inl ⟨by omega, h2⟩
      · rw [if_neg e, ih]
        constructor
        · rintro ⟨h1, h2⟩; exact ⟨by omega, h2⟩
        · rintro ⟨h1, h2⟩
          have : j ≠ m := fun q => e (by rw [q])
          exact ⟨by omega, h2⟩
theorem fa_cnt {w : Nat → Int32} {st : Nat → Int32} (hst : ∀ j, j < 256 → (st j = 0 ↔ s_X3_doesStand n hd fi un may (nI j) sme facts = 0)) : ∀ m : Nat, m ≤ 256 → (itr (f_X3_findAll__nw_27 n hd fi un may sme facts) (0, w) m).1 = itr (fun j many => if st j = 0 then many else many + 1) 0 m
  | 0, _ => rfl
  | m + 1, hm => by
    have ih := fa_cnt (w := w) hst m (by omega)
    rw [itr_succ, itr_succ, ← ih]
    generalize itr (f_X3_findAll__nw_27 n hd fi un may sme facts) (0, w) m = s2
    obtain ⟨c, r⟩ := s2
    unfold f_X3_findAll__nw_27
    dsimp only
    by_cases c1 : s_X3_doesStand n hd fi un may (nI m) sme facts = 0
    · rw [if_pos c1, if_pos ((hst m (by omega)).mpr c1)]
    · rw [if_neg c1, if_neg (fun q => c1 ((hst m (by omega)).mp q))]
/-- what findAll leaves: how many, and a bit for each set that stands -/
theorem fa_all (nw : Nat → Int32) : ∃ (c : Int32) (r : Nat → Int32), s_X3_findAll__nw n hd fi un may nw sme facts = (c, r) ∧ (∀ j, j < 256 → (bt (r (j / 32)) (j % 32) = true ↔ ¬ s_X3_doesStand n hd fi un may (nI j) sme facts = 0)) ∧ ∀ st : Nat → Int32, (∀ j, j < 256 → (st j = 0 ↔ s_X3_doesStand n hd fi un may (nI j) sme facts = 0)) → c = itr (fun j many => if st j = 0 then many else many + 1) 0 256 := by
  refine ⟨(itr (f_X3_findAll__nw_27 n hd fi un may sme facts) (0, itr f_X3_findAll__nw_6 nw 8) 256).1, (itr (f_X3_findAll__nw_27 n hd fi un may sme facts) (0, itr f_X3_findAll__nw_6 nw 8) 256).2, ?_, ?_, ?_⟩
  · unfold s_X3_findAll__nw
    generalize itr f_X3_findAll__nw_6 nw 8 = w
    generalize (256 : Nat) = N
    show (match itr (f_X3_findAll__nw_27 n hd fi un may sme facts) (0, w) N with | (cnt, nw7) => (cnt, nw7)) = _
    generalize itr (f_X3_findAll__nw_27 n hd fi un may sme facts) (0, w) N = st
    obtain ⟨c, r⟩ := st
    rfl
  · intro j hj
    rw [fa_bt (fa6_it nw 8) 256 (Nat.le_refl _) j hj]
    exact ⟨fun h => h.2, fun h => ⟨hj, h⟩⟩
  · intro st hst
    exact fa_cnt hst 256 (Nat.le_refl _)
theorem fa_has {r : Nat → Int32} (hr : ∀ j, j < 256 → (bt (r (j / 32)) (j % 32) = true ↔ ¬ s_X3_doesStand n hd fi un may (nI j) sme facts = 0)) {j : Nat} (hj : j < 256) : s_X3_has (r ((nI j / 32) : Int32).toNatClampNeg) (nI j - nI j / 32 * 32) = 0 ↔ s_X3_doesStand n hd fi un may (nI j) sme facts = 0 := by
  rw [ix_div hj, ix_rem hj, has_0, bo_1 _ (by omega), hr j hj]
  exact ⟨fun h => Classical.byContradiction h, fun h q => q h⟩
end RW
section RS
variable {n len : Nat} {on may asd kept : Int32} {hd fi un hdm fim unm by_ tx io ia kp ko ka : Nat → Int32}
theorem q_sets (hR : Rel n len on may asd kept hd fi un hdm fim unm by_ tx io ia kp ko ka) (nw : Nat → Int32) : s_X2_sets n may hd fi un on asd = s_X3_sets n hdm fim unm may on asd nw := by
  obtain ⟨c, r, e, -, h⟩ := fa_all (n := n) (hd := hdm) (fi := fim) (un := unm) (may := may) (sme := on) (facts := asd) nw
  unfold s_X3_sets
  rw [e]
  show itr (f_X2_sets_4 n may hd fi un on asd) 0 256 = c
  rw [h (fun j => s_X0_upholds n may hd fi un (nI j) on asd) (fun j hj => by rw [hR.st hj on hR.va])]
  rfl
theorem set_it {st : Nat → Int32} {r : Nat → Int32} {ds : Nat → Int32} (h1 : ∀ j, j < 256 → (s_X3_has (r ((nI j / 32) : Int32).toNatClampNeg) (nI j - nI j / 32 * 32) = 0 ↔ st j = 0)) (i : Int32) : ∀ m : Nat, m ≤ 256 → ((∃ b, itE (fun j ahead => if st j = 0 then (.inr ahead : Int32 ⊕ Int32) else if ahead = i then .inl (nI j) else .inr (ahead + 1)) 0 m = .inl b ∧ itE (f_X3_ofAll_4 r) i m = .inl b) ∨ (∃ a : Int32, itE (fun j ahead => if st j = 0 then (.inr ahead : Int32 ⊕ Int32) else if ahead = i then .inl (nI j) else .inr (ahead + 1)) 0 m = .inr a ∧ itE (f_X3_ofAll_4 r) i m = .inr (i - a)))
  | 0, _ => Or.inr ⟨0, rfl, by rw [itE_zero, Int32.sub_zero]⟩
  | m + 1, hm => by
    rcases set_it (ds := ds) h1 i m (by omega) with ⟨b, e1, e2⟩ | ⟨a, e1, e2⟩
    · exact Or.inl ⟨b, itE_stop e1 (m + 1) (by omega), itE_stop e2 (m + 1) (by omega)⟩
    · by_cases c1 : st m = 0
      · right
        refine ⟨a, itE_succ e1 (if_pos c1), itE_succ e2 ?_⟩
        unfold f_X3_ofAll_4
        exact if_pos ((h1 m (by omega)).mpr c1)
      · have c1' : ¬ s_X3_has (r ((nI m / 32) : Int32).toNatClampNeg) (nI m - nI m / 32 * 32) = 0 := fun q => c1 ((h1 m (by omega)).mp q)
        by_cases c2 : a = i
        · left
          refine ⟨nI m, itE_succ e1 ((if_neg c1).trans (if_pos c2)), itE_succ e2 ?_⟩
          unfold f_X3_ofAll_4
          exact (if_neg c1').trans (if_pos (by rw [c2]; grind))
        · right
          refine ⟨a + 1, itE_succ e1 ((if_neg c1).trans (if_neg c2)), itE_succ e2 ?_⟩
          unfold f_X3_ofAll_4
          refine (if_neg c1').trans ((if_neg (fun q => c2 (by grind))).trans ?_)
          exact congrArg Sum.inr (by grind)
theorem set_eq (hR : Rel n len on may asd kept hd fi un hdm fim unm by_ tx io ia kp ko ka) (nw : Nat → Int32) (i : Int32) : ∃ (c : Int32) (r : Nat → Int32), s_X3_findAll__nw n hdm fim unm may nw on asd = (c, r) ∧ s_X2_standingSet n may hd fi un on asd i = s_X3_ofAll r i := by
  obtain ⟨c, r, e, hr, -⟩ := fa_all (n := n) (hd := hdm) (fi := fim) (un := unm) (may := may) (sme := on) (facts := asd) nw
  refine ⟨c, r, e, ?_⟩
  have key := set_it (st := fun j => s_X0_upholds n may hd fi un (nI j) on asd) (r := r) (ds := r) (fun j hj => by rw [fa_has hr hj, hR.st hj on hR.va]) i 256 (Nat.le_refl _)
  unfold s_X3_ofAll
  show onE (itE (fun j ahead => if s_X0_upholds n may hd fi un (nI j) on asd = 0 then (.inr ahead : Int32 ⊕ Int32) else if ahead = i then .inl (nI j) else .inr (ahead + 1)) 0 256) (fun _ => -9) = onE (itE (f_X3_ofAll_4 r) i 256) (fun _ => -9)
  rcases key with ⟨b, e1, e2⟩ | ⟨a, e1, e2⟩
  · rw [e1, e2]; try rfl
  · rw [e1, e2]; try rfl
theorem q_set (hR : Rel n len on may asd kept hd fi un hdm fim unm by_ tx io ia kp ko ka) (nw : Nat → Int32) (i : Int32) : s_X2_set n may hd fi un on asd i = s_X3_set n hdm fim unm may on asd nw i := by
  obtain ⟨c, r, e, h⟩ := set_eq hR nw i
  unfold s_X2_set s_X3_set
  rw [e, h]
theorem all_it {P : Nat → Prop} [DecidablePred P] : ∀ N : Nat, ((∀ j, j < N → P j) ∧ itE (fun j (_ : Unit) => if P j then (.inr () : Int32 ⊕ Unit) else .inl 0) () N = .inr ()) ∨ ((¬ ∀ j, j < N → P j) ∧ itE (fun j (_ : Unit) => if P j then (.inr () : Int32 ⊕ Unit) else .inl 0) () N = .inl 0)
  | 0 => Or.inl ⟨fun j hj => absurd hj (Nat.not_lt_zero j), rfl⟩
  | N + 1 => by
    rcases all_it (P := P) N with ⟨h, e⟩ | ⟨h, e⟩
    · by_cases c : P N
      · left
        refine ⟨fun j hj => ?_, itE_succ e (if_pos c)⟩
        by_cases q : j = N
        · subst q; exact c
        · exact h j (by omega)
      · exact Or.inr ⟨fun q => c (q N (by omega)), itE_succ e (if_neg c)⟩
    · exact Or.inr ⟨fun q => h (fun j hj => q j (by omega)), itE_stop e (N + 1) (by omega)⟩
theorem same_iff (oon oas : Int32) : (s_X2_sameSetsWith n may hd fi un on asd oon oas = 0 ∧ ¬ ∀ j, j < 256 → s_X0_upholds n may hd fi un (nI j) on asd = s_X0_upholds n may hd fi un (nI j) oon oas) ∨ (s_X2_sameSetsWith n may hd fi un on asd oon oas = 1 ∧ ∀ j, j < 256 → s_X0_upholds n may hd fi un (nI j) on asd = s_X0_upholds n may hd fi un (nI j) oon oas) := by
  have h := all_it (P := fun j => s_X0_upholds n may hd fi un (nI j) on asd = s_X0_upholds n may hd fi un (nI j) oon oas) 256
  have e : s_X2_sameSetsWith n may hd fi un on asd oon oas = onE (itE (fun j (_ : Unit) => if s_X0_upholds n may hd fi un (nI j) on asd = s_X0_upholds n may hd fi un (nI j) oon oas then (.inr () : Int32 ⊕ Unit) else .inl 0) () 256) (fun _ => 1) := rfl
  rw [e]
  rcases h with ⟨h, z⟩ | ⟨h, z⟩
  · right; rw [z]; exact ⟨rfl, h⟩
  · left; rw [z]; exact ⟨rfl, h⟩
theorem fot_6 : f_X3_findAll__ot_6 = f_X3_findAll__nw_6 := rfl
theorem fot_27 : f_X3_findAll__ot_27 = f_X3_findAll__nw_27 := rfl
theorem fot (n : Nat) (hd fi un : Nat → Int32) (may : Int32) (ot : Nat → Int32) (sme facts : Int32) : s_X3_findAll__ot n hd fi un may ot sme facts = s_X3_findAll__nw n hd fi un may ot sme facts := by
  unfold s_X3_findAll__ot s_X3_findAll__nw
  rw [fot_6, fot_27]
theorem are_it (r r' : Nat → Int32) : ∀ N : Nat, ((∀ k, k < N → r k = r' k) ∧ itr (f_X3_areSame_33 r r') 1 N = 1) ∨ ((¬ ∀ k, k < N → r k = r' k) ∧ itr (f_X3_areSame_33 r r') 1 N = 0)
  | 0 => Or.inl ⟨fun j hj => absurd hj (Nat.not_lt_zero j), rfl⟩
  | N + 1 => by
    rw [itr_succ]
    rcases are_it r r' N with ⟨h, e⟩ | ⟨h, e⟩
    · rw [e]
      unfold f_X3_areSame_33
      rw [if_neg (show ¬ (1 : Int32) = 0 by decide)]
      by_cases c : r N = r' N
      · left
        refine ⟨fun j hj => ?_, if_pos c⟩
        by_cases q : j = N
        · subst q; exact c
        · exact h j (by omega)
      · exact Or.inr ⟨fun q => c (q N (by omega)), if_neg c⟩
    · rw [e]
      unfold f_X3_areSame_33
      exact Or.inr ⟨fun q => h (fun j hj => q j (by omega)), if_pos rfl⟩
theorem same_eq (hR : Rel n len on may asd kept hd fi un hdm fim unm by_ tx io ia kp ko ka) (nw ot : Nat → Int32) (oon : Int32) {oas : Int32} (hv : V8 oas) : s_X2_sameSetsWith n may hd fi un on asd oon oas = s_X3_areSame n hdm fim unm may on asd nw ot oon oas := by
  obtain ⟨c, r, e, hr, -⟩ := fa_all (n := n) (hd := hdm) (fi := fim) (un := unm) (may := may) (sme := on) (facts := asd) nw
  obtain ⟨c', r', e', hr', -⟩ := fa_all (n := n) (hd := hdm) (fi := fim) (un := unm) (may := may) (sme := oon) (facts := oas) ot
  unfold s_X3_areSame
  rw [fot, e, e', onP2_mk c r, onP2_mk c' r']
  show _ = itr (f_X3_areSame_33 r r') 1 8
  have key : (∀ j, j < 256 → s_X0_upholds n may hd fi un (nI j) on asd = s_X0_upholds n may hd fi un (nI j) oon oas) ↔ ∀ k, k < 8 → r k = r' k := by
    constructor
    · intro h k hk
      apply b_ext
      intro i hi
      have hj : 32 * k + i < 256 := by omega
      have h1 := hr (32 * k + i) hj
      have h2 := hr' (32 * k + i) hj
      rw [← hR.st hj on hR.va] at h1
      rw [← hR.st hj oon hv, ← h _ hj] at h2
      rw [show (32 * k + i) / 32 = k by omega, show (32 * k + i) % 32 = i by omega] at h1 h2
      exact Bool.eq_iff_iff.mpr (h1.trans h2.symm)
    · intro h j hj
      have h1 := hr j hj
      have h2 := hr' j hj
      rw [← hR.st hj on hR.va] at h1
      rw [← hR.st hj oon hv, ← h (j / 32) (by omega), h1] at h2
      rcases up_01 (n := n) (hd := hd) (fi := fi) (un := un) may (nI j) on asd with z | z <;> rcases up_01 (n := n) (hd := hd) (fi := fi) (un := un) may (nI j) oon oas with z' | z' <;> rw [z, z'] at h2 ⊢
      · exact absurd rfl (h2.mpr (by decide))
      · exact absurd rfl (h2.mp (by decide))
  rcases same_iff (n := n) (may := may) (hd := hd) (fi := fi) (un := un) (on := on) (asd := asd) oon oas with ⟨z, h⟩ | ⟨z, h⟩ <;> rcases are_it r r' 8 with ⟨h2, z2⟩ | ⟨h2, z2⟩
  · exact absurd (key.mpr h2) h
  · rw [z, z2]
  · rw [z, z2]
  · exact absurd (key.mp h) h2
theorem q_idle (hR : Rel n len on may asd kept hd fi un hdm fim unm by_ tx io ia kp ko ka) (nw ot : Nat → Int32) (k : Int32) : s_X2_idle n may hd fi un on asd k = s_X3_idle n hdm fim unm may on asd nw ot k := by
  unfold s_X2_idle s_X3_idle
  by_cases c : s_X2_isRule n k = 0
  · rw [if_pos c, if_pos ((isRule_eq hR.hn k).mp c)]
  · rw [if_neg c, if_neg (fun q => c ((isRule_eq hR.hn k).mpr q))]
    obtain ⟨u, hu, rfl⟩ := isRule_of hR.hn c
    have hn := hR.hn
    by_cases d : s_X2_bitOf on (nI u) = 0
    · rw [if_pos d, if_pos ((has_0 _ _).mpr (fun q => by rw [d] at q; exact absurd q (by decide)))]
    · rw [if_neg d, if_neg (fun q => (has_0 _ _).mp q ((bo_n0 _ _).mp d)), withBit_0 on (by omega), same_eq hR nw ot _ hR.va]
theorem q_alike (hR : Rel n len on may asd kept hd fi un hdm fim unm by_ tx io ia kp ko ka) (nw ot : Nat → Int32) (image : Int32) : s_X2_alike n may hd fi un on asd io ia kept image = s_X3_alike n hdm fim unm may on asd nw ot kp ko ka image := by
  unfold s_X2_alike s_X3_alike
  by_cases c : s_X2_isImage image = 0
  · rw [if_pos c, if_pos ((isImage_eq image).mp c)]
  · rw [if_neg c, if_neg (fun q => c ((isImage_eq image).mpr q))]
    obtain ⟨u, hu, rfl⟩ := isImage_of c
    rw [nI_clamp (by omega)]
    rcases hR.2.2.2 u hu with ⟨z1, z2⟩ | ⟨z1, z2, z3, z4, z5, z6⟩
    · rw [if_pos z2, if_pos z1]
    · rw [if_neg z2, if_neg z1, z3, z4, same_eq hR nw ot _ (V8_of z6)]
end RS
