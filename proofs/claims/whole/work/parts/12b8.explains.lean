theorem first_it {β : Type} {P : Nat → Prop} [DecidablePred P] (v : Nat → β) : ∀ N : Nat, (itE (fun j (_ : Unit) => if P j then (.inl (v j) : β ⊕ Unit) else .inr ()) () N = .inr () ∧ ∀ j, j < N → ¬ P j) ∨ (∃ x, x < N ∧ P x ∧ (∀ j, j < x → ¬ P j) ∧ itE (fun j (_ : Unit) => if P j then (.inl (v j) : β ⊕ Unit) else .inr ()) () N = .inl (v x))
  | 0 => Or.inl ⟨rfl, fun j hj => absurd hj (Nat.not_lt_zero j)⟩
  | N + 1 => by
    rcases first_it (P := P) v N with ⟨e, h⟩ | ⟨x, hx, hp, h, e⟩
    · by_cases c : P N
      · exact Or.inr ⟨N, by omega, c, h, itE_succ e (if_pos c)⟩
      · refine Or.inl ⟨itE_succ e (if_neg c), fun j hj => ?_⟩
        by_cases q : j = N
        · subst q; exact c
        · exact h j (by omega)
    · exact Or.inr ⟨x, by omega, hp, h, itE_stop e (N + 1) (by omega)⟩
section EC
variable {n : Nat} {hd fi un : Nat → Int32}
theorem ex26 (may on asd a sme : Int32) (many : Nat) : f_X2_explains_26 n may hd fi un on asd a sme many = fun j _ => if ((nI j) &&& (sme ^^^ (-1))) = 0 ∧ s_J6_bitCount_0f7a4 (nI j) = nI many ∧ ¬ s_X2_standsWith n may hd fi un on a (asd ||| nI j) = 0 then (.inl (.inl (nI j)) : (Int32 ⊕ Unit) ⊕ Unit) else .inr () := by
  funext j u
  unfold f_X2_explains_26
  by_cases c1 : ((nI j) &&& (sme ^^^ (-1))) = 0
  · rw [if_pos c1]
    by_cases c2 : s_J6_bitCount_0f7a4 (nI j) = nI many
    · rw [if_pos c2]
      by_cases c3 : s_X2_standsWith n may hd fi un on a (asd ||| nI j) = 0
      · rw [if_pos c3, if_neg (fun z => z.2.2 c3)]
      · rw [if_neg c3, if_pos ⟨c1, c2, c3⟩]
    · rw [if_neg c2, if_neg (fun z => c2 z.2.1)]
  · rw [if_neg c1, if_neg (fun z => c1 z.1)]
theorem ex18 (may on asd a sme : Int32) (many N : Nat) (hN : sme.toNatClampNeg + 1 = N) : (f_X2_explains_18 n may hd fi un on asd a sme many () = .inr () ∧ ∀ j, j < N → ¬ (((nI j) &&& (sme ^^^ (-1))) = 0 ∧ s_J6_bitCount_0f7a4 (nI j) = nI many ∧ ¬ s_X2_standsWith n may hd fi un on a (asd ||| nI j) = 0)) ∨ (∃ x, x < N ∧ (((nI x) &&& (sme ^^^ (-1))) = 0 ∧ s_J6_bitCount_0f7a4 (nI x) = nI many ∧ ¬ s_X2_standsWith n may hd fi un on a (asd ||| nI x) = 0) ∧ (∀ j, j < x → ¬ (((nI j) &&& (sme ^^^ (-1))) = 0 ∧ s_J6_bitCount_0f7a4 (nI j) = nI many ∧ ¬ s_X2_standsWith n may hd fi un on a (asd ||| nI j) = 0)) ∧ f_X2_explains_18 n may hd fi un on asd a sme many () = .inl (nI x)) := by
  unfold f_X2_explains_18
  rw [ex26, hN]
  rcases first_it (P := fun j => ((nI j) &&& (sme ^^^ (-1))) = 0 ∧ s_J6_bitCount_0f7a4 (nI j) = nI many ∧ ¬ s_X2_standsWith n may hd fi un on a (asd ||| nI j) = 0) (fun j => (.inl (nI j) : Int32 ⊕ Unit)) N with ⟨e, h⟩ | ⟨x, hx, hp, h, e⟩
  · rw [e]; exact Or.inl ⟨rfl, h⟩
  · rw [e]; exact Or.inr ⟨x, hx, hp, h, rfl⟩
theorem ex_it (may on asd a sme : Int32) (N : Nat) (hN : sme.toNatClampNeg + 1 = N) (hN2 : N ≤ 256) : ∀ m : Nat, m ≤ 4 → (itE (f_X2_explains_18 n may hd fi un on asd a sme) () m = .inr () ∧ ∀ j, j < N → (((nI j) &&& (sme ^^^ (-1))) = 0 ∧ ¬ s_X2_standsWith n may hd fi un on a (asd ||| nI j) = 0) → m ≤ po j) ∨ (∃ x, x < N ∧ (((nI x) &&& (sme ^^^ (-1))) = 0 ∧ ¬ s_X2_standsWith n may hd fi un on a (asd ||| nI x) = 0) ∧ po x < m ∧ (∀ j, j < N → (((nI j) &&& (sme ^^^ (-1))) = 0 ∧ ¬ s_X2_standsWith n may hd fi un on a (asd ||| nI j) = 0) → po x ≤ po j ∧ (po j = po x → x ≤ j)) ∧ itE (f_X2_explains_18 n may hd fi un on asd a sme) () m = .inl (nI x))
  | 0, _ => Or.inl ⟨rfl, fun j _ _ => Nat.zero_le _⟩
  | m + 1, hm => by
    have cq : ∀ j, j < N → (s_J6_bitCount_0f7a4 (nI j) = nI m ↔ po j = m) := by
      intro j hj
      obtain ⟨o1, o2⟩ := po_ok j (by omega)
      rw [cnt_nI j (by omega), o1]
      exact nI_eq (by omega) (by omega)
    rcases ex_it may on asd a sme N hN hN2 m (by omega) with ⟨e, h⟩ | ⟨x, hx, hq, hp, h, e⟩
    · rcases ex18 (n := n) (hd := hd) (fi := fi) (un := un) may on asd a sme m N hN with ⟨e2, h2⟩ | ⟨x, hx, hp, h2, e2⟩
      · left
        refine ⟨itE_succ e e2, fun j hj q => ?_⟩
        have h3 := h j hj q
        have : po j ≠ m := fun z => h2 j hj ⟨q.1, (cq j hj).mpr z, q.2⟩
        omega
      · right
        refine ⟨x, hx, ⟨hp.1, hp.2.2⟩, ?_, fun j hj q => ?_, itE_succ e e2⟩
        · have := (cq x hx).mp hp.2.1; omega
        · have h3 := h j hj q
          have h4 := (cq x hx).mp hp.2.1
          refine ⟨by omega, fun z => ?_⟩
          rcases Nat.lt_or_ge j x with y | y
          · exact absurd ⟨q.1, (cq j hj).mpr (by omega), q.2⟩ (h2 j y)
          · exact y
    · exact Or.inr ⟨x, hx, hq, by omega, h, itE_stop e (m + 1) (by omega)⟩
end EC
section ES
variable {n len : Nat} {on may asd kept : Int32} {hd fi un hdm fim unm by_ tx io ia kp ko ka : Nat → Int32}
theorem sw_is (hR : Rel n len on may asd kept hd fi un hdm fim unm by_ tx io ia kp ko ka) {u : Nat} (hu : u < 8) {f : Int32} (hf : vp_in f 256) : s_X2_standsWith n may hd fi un on (nI u) f = 0 ↔ s_X3_isInSome n hdm fim unm may on (nI u) f = 0 := by
  obtain ⟨w, ew, hw⟩ := sw_need (a := nI u) (f := f) ⟨vp_in_nI hu (by omega), hf⟩
  rw [sw_iff hw ew, is_iff]
  have bw : ∀ i, i < 32 → bt (nI w) i = (bt f i || decide (i = u)) := fun i hi => by rw [← ew, b_or, b_one u (by omega) hi]
  constructor
  · intro h x hx q
    rw [← hR.st hx on (V8_of hf)]
    by_cases c : w ||| x = x
    · exact h x hx c
    · rw [bo_1 _ (by omega)] at q
      unfold s_X0_upholds
      refine if_neg (fun z => c ((sup_bt hw).mpr (fun i hi y => ?_)))
      rw [bw i hi, Bool.or_eq_true, decide_eq_true_eq] at y
      rcases y with y | y
      · exact (sub_0 _ _).mp z i hi y
      · subst y; exact q
  · intro h x hx q
    rw [hR.st hx on (V8_of hf)]
    refine h x hx ?_
    rw [bo_1 _ (by omega)]
    refine (sup_bt hw).mp q u (by omega) ?_
    rw [bw u (by omega), decide_eq_true rfl, Bool.or_true]
theorem q_explains (hR : Rel n len on may asd kept hd fi un hdm fim unm by_ tx io ia kp ko ka) (a sme : Int32) : s_X2_explains n may hd fi un on asd a sme = s_X3_explains n hdm fim unm may on asd a sme := by
  unfold s_X2_explains s_X3_explains
  by_cases c : s_X2_isSentence a = 0
  · rw [if_pos c, if_pos ((isSent_eq a).mp c)]
  · rw [if_neg c, if_neg (fun q => c ((isSent_eq a).mpr q))]
    by_cases d : s_X2_isSet sme = 0
    · rw [if_pos d, if_pos ((isSet_eq sme).mp d)]
    · rw [if_neg d, if_neg (fun q => d ((isSet_eq sme).mpr q))]
      obtain ⟨u, hu, rfl⟩ := isSent_of c
      have hN : sme.toNatClampNeg + 1 ≤ 256 := by
        have := sm_le (vp_set d); omega
      generalize hNe : sme.toNatClampNeg + 1 = N at hN ⊢
      have b1 : Best N (fun j => ((nI j) &&& (sme ^^^ (-1))) = 0 ∧ ¬ s_X3_isInSome n hdm fim unm may on (nI u) (asd ||| nI j) = 0) (itr (f_X3_explains_32 n hdm fim unm may on asd (nI u) sme) (-9) N) := best_it (A := fun j => (nI j) &&& (sme ^^^ (-1))) (T := fun j => s_X3_isInSome n hdm fim unm may on (nI u) (asd ||| nI j)) (fun j b => rfl) N (by omega)
      refine Best.eq ?_ b1
      have sw : ∀ j, j < N → (s_X2_standsWith n may hd fi un on (nI u) (asd ||| nI j) = 0 ↔ s_X3_isInSome n hdm fim unm may on (nI u) (asd ||| nI j) = 0) := fun j hj => sw_is hR hu (vp_or hR.hasd (by omega))
      rcases ex_it (n := n) (hd := hd) (fi := fi) (un := un) may on asd (nI u) sme N hNe hN 4 (Nat.le_refl _) with ⟨e, h⟩ | ⟨x, hx, hq, hp, h, e⟩
      · rw [e]
        exact Or.inl ⟨rfl, fun j hj q => h j hj ⟨q.1, fun z => q.2 ((sw j hj).mp z)⟩⟩
      · rw [e]
        exact Or.inr ⟨x, hx, rfl, ⟨hq.1, fun z => hq.2 ((sw x hx).mpr z)⟩, by omega, fun j hj q => h j hj ⟨q.1, fun z => q.2 ((sw j hj).mp z)⟩⟩
end ES
