theorem pw {i k : Nat} (h : k ≤ i) : 2 ^ k ≤ 2 ^ i := Nat.pow_le_pow_right (by omega) h
theorem po_cn : ∀ v : Nat, v < 1024 → po v = cn (fun i => v.testBit i) 10 := by
  unfold po
  decide +kernel
theorem po_sub {x y : Nat} (hx : x < 1024) (hy : y < 1024) (h : x ||| y = y) : po x ≤ po y ∧ (po y = po x → x = y) := by
  have hb : ∀ i, x.testBit i = true → y.testBit i = true := fun i q => by rw [← h, Nat.testBit_or, q]; rfl
  rw [po_cn x hx, po_cn y hy]
  refine ⟨cn_mono 10 (fun i _ => hb i), fun e => Classical.byContradiction (fun ne => ?_)⟩
  have : cn (fun i => x.testBit i) 10 < cn (fun i => y.testBit i) 10 := by
    refine cn_lt 10 (fun i _ => hb i) (Classical.byContradiction (fun q => ne (Nat.eq_of_testBit_eq (fun i => ?_))))
    rcases Nat.lt_or_ge i 10 with z | z
    · cases e1 : x.testBit i
      · cases e2 : y.testBit i
        · rfl
        · exact absurd ⟨i, z, e2, e1⟩ q
      · exact (hb i e1).symm
    · have p10 : (1024 : Nat) ≤ 2 ^ i := pw (k := 10) z
      rw [Nat.testBit_lt_two_pow (by omega), Nat.testBit_lt_two_pow (by omega)]
  omega
theorem better {x y : Nat} (hx : x < 1024) (hy : y < 1024) : (¬ s_X2_isBetter (nI x) (nI y) = 0) ↔ (po x < po y ∨ (po x = po y ∧ x < y)) := by
  obtain ⟨o1, o2⟩ := po_ok x hx
  obtain ⟨o3, o4⟩ := po_ok y hy
  unfold s_X2_isBetter
  have n9 : ¬ nI y = -9 := by
    intro q
    have h1 := congrArg Int32.toInt q
    rw [nI_toInt (by omega)] at h1
    have h2 : (-9 : Int32).toInt = -9 := rfl
    omega
  rw [if_neg n9, cnt_nI x hx, cnt_nI y hy, o1, o3]
  have ed : (nI (po x) - nI (po y)).toInt = (po x : Int) - po y := pk_sub_toInt (by omega) (by omega)
  have z0 : (0 : Int32).toInt = 0 := rfl
  by_cases c1 : nI (po x) - nI (po y) < 0
  · rw [if_pos c1]
    rw [Int32.lt_iff_toInt_lt, ed, z0] at c1
    exact ⟨fun _ => Or.inl (by omega), fun _ => by decide⟩
  · rw [if_neg c1]
    rw [Int32.lt_iff_toInt_lt, ed, z0] at c1
    by_cases c2 : nI (po x) - nI (po y) = 0
    · rw [if_pos c2]
      have c2' : po x = po y := by
        have := congrArg Int32.toInt c2
        rw [ed, z0] at this
        omega
      by_cases c3 : nI y ≤ nI x
      · rw [if_pos c3]
        have := (nI_leI (by omega) (by omega)).mp c3
        exact ⟨fun q => absurd rfl q, fun q => by omega⟩
      · rw [if_neg c3]
        have : ¬ y ≤ x := fun q => c3 (nI_le q (by omega))
        exact ⟨fun _ => Or.inr ⟨c2', by omega⟩, fun _ => by decide⟩
    · rw [if_neg c2]
      have c2' : po x ≠ po y := by
        intro q
        apply c2
        apply Int32.toInt_inj.mp
        rw [ed, z0]
        omega
      exact ⟨fun q => absurd rfl q, fun q => by omega⟩
theorem gu_it {N : Nat} {bk : Nat → Int32} {br : Nat → Nat} {up : Nat → Int32} (hb : ∀ s, s < 256 → bk s = nI (br s) ∧ br s < 1024) {f : Nat → Int32 → Int32} (hf : ∀ s b, f s b = (if 3 < s_J6_bitCount_0f7a4 (bk s) then b else (if s_X2_isBetter (bk s) b = 0 then b else (if up s = 0 then b else bk s)))) : ∀ m : Nat, m ≤ 256 → (itr f (-9) m = -9 ∧ ∀ s, s < m → ¬ up s = 0 → 4 ≤ po (br s)) ∨ (∃ t, t < m ∧ itr f (-9) m = nI (br t) ∧ ¬ up t = 0 ∧ po (br t) ≤ 3 ∧ ∀ s, s < m → ¬ up s = 0 → po (br t) ≤ po (br s) ∧ (po (br s) = po (br t) → br t ≤ br s))
  | 0, _ => Or.inl ⟨rfl, fun j hj => absurd hj (Nat.not_lt_zero j)⟩
  | m + 1, hm => by
    obtain ⟨e1, e2⟩ := hb m (by omega)
    obtain ⟨o1, o2⟩ := po_ok (br m) e2
    have ecnt : s_J6_bitCount_0f7a4 (bk m) = nI (po (br m)) := by rw [e1, cnt_nI _ e2, o1]
    have c1' : (3 : Int32) < s_J6_bitCount_0f7a4 (bk m) ↔ 3 < po (br m) := by
      rw [ecnt]; exact nI_ltI (a := 3) (b := po (br m)) (by omega) (by omega)
    rw [itr_succ]
    rcases gu_it (N := N) hb hf m (by omega) with ⟨e, h⟩ | ⟨t, ht, e, q, o, h⟩
    · rw [e, hf]
      have keep : (¬ up m = 0 → 4 ≤ po (br m)) → ((-9 : Int32) = -9 ∧ ∀ s, s < m + 1 → ¬ up s = 0 → 4 ≤ po (br s)) := fun z => ⟨rfl, fun s hs hq => by
        by_cases es : s = m
        · subst es; exact z hq
        · exact h s (by omega) hq⟩
      by_cases c1 : (3 : Int32) < s_J6_bitCount_0f7a4 (bk m)
      · rw [if_pos c1]; exact Or.inl (keep (fun _ => c1'.mp c1))
      · rw [if_neg c1, if_neg (show ¬ s_X2_isBetter (bk m) (-9) = 0 by unfold s_X2_isBetter; rw [if_pos rfl]; decide)]
        by_cases c3 : up m = 0
        · rw [if_pos c3]; exact Or.inl (keep (fun z => absurd c3 z))
        · rw [if_neg c3]
          have c4 : ¬ 3 < po (br m) := fun z => c1 (c1'.mpr z)
          refine Or.inr ⟨m, by omega, e1, c3, by omega, fun s hs hq => ?_⟩
          by_cases es : s = m
          · subst es; exact ⟨Nat.le_refl _, fun _ => Nat.le_refl _⟩
          · have := h s (by omega) hq
            exact ⟨by omega, fun _ => by omega⟩
    · obtain ⟨t1, t2⟩ := hb t (by omega)
      rw [e, hf]
      have keep : (¬ up m = 0 → po (br t) ≤ po (br m) ∧ (po (br m) = po (br t) → br t ≤ br m)) → (∃ t', t' < m + 1 ∧ nI (br t) = nI (br t') ∧ ¬ up t' = 0 ∧ po (br t') ≤ 3 ∧ ∀ s, s < m + 1 → ¬ up s = 0 → po (br t') ≤ po (br s) ∧ (po (br s) = po (br t') → br t' ≤ br s)) := fun z => ⟨t, by omega, rfl, q, o, fun s hs hq => by
        by_cases es : s = m
        · subst es; exact z hq
        · exact h s (by omega) hq⟩
      by_cases c1 : (3 : Int32) < s_J6_bitCount_0f7a4 (bk m)
      · rw [if_pos c1]
        have := c1'.mp c1
        exact Or.inr (keep (fun _ => ⟨by omega, fun _ => by omega⟩))
      · rw [if_neg c1]
        have hbt := better e2 t2
        rw [← e1] at hbt
        by_cases c2 : s_X2_isBetter (bk m) (nI (br t)) = 0
        · rw [if_pos c2]
          have : ¬ (po (br m) < po (br t) ∨ (po (br m) = po (br t) ∧ br m < br t)) := fun z => (hbt.mpr z) c2
          exact Or.inr (keep (fun _ => ⟨by omega, fun _ => by omega⟩))
        · rw [if_neg c2]
          have c2' := hbt.mp c2
          by_cases c3 : up m = 0
          · rw [if_pos c3]; exact Or.inr (keep (fun z => absurd c3 z))
          · rw [if_neg c3]
            refine Or.inr ⟨m, by omega, e1, c3, by omega, fun s hs hq => ?_⟩
            by_cases es : s = m
            · subst es; exact ⟨Nat.le_refl _, fun _ => Nat.le_refl _⟩
            · have := h s (by omega) hq
              exact ⟨by omega, fun _ => by omega⟩
section GV
variable {n : Nat} {hd fi un : Nat → Int32}
theorem nr_on (hh : Hok n hd) {c c' ag on on' : Int32} (h1 : sb c c') (h2 : ∀ k, k < n → s_X2_bitOf on (nI k) = 1 → s_X2_bitOf on' (nI k) = 1) : sb (s_X0_nextRound n hd fi un c on ag) (s_X0_nextRound n hd fi un c' on' ag) := by
  intro i hi h
  rw [nr_iff hh _ _ _ hi] at h ⊢
  rcases h with h | ⟨k, hk, z1, z2, z3, z4, z5⟩
  · exact Or.inl (h1 i hi h)
  · refine Or.inr ⟨k, hk, h2 k hk z1, z2, z3, ?_, z5⟩
    rw [sub_0] at z4 ⊢
    exact fun j hj q => h1 j hj (z4 j hj q)
theorem it_on (hh : Hok n hd) {ag on on' : Int32} (h2 : ∀ k, k < n → s_X2_bitOf on (nI k) = 1 → s_X2_bitOf on' (nI k) = 1) {c : Int32} : ∀ m : Nat, sb (itr (fun _ x => s_X0_nextRound n hd fi un x on ag) c m) (itr (fun _ x => s_X0_nextRound n hd fi un x on' ag) c m)
  | 0 => by
    rw [itr_zero, itr_zero]
    exact fun i hi q => q
  | m + 1 => by
    rw [itr_succ, itr_succ]
    exact nr_on hh (it_on hh h2 m) h2
theorem comes_on (hh : Hok n hd) {c ag on on' : Int32} (h2 : ∀ k, k < n → s_X2_bitOf on (nI k) = 1 → s_X2_bitOf on' (nI k) = 1) : sb (s_X0_comesOf n hd fi un c on ag) (s_X0_comesOf n hd fi un c on' ag) := by
  rw [comes_it, comes_it]
  exact it_on hh h2 8
theorem up_iff {may set on asd : Int32} : (¬ s_X0_upholds n may hd fi un set on asd = 0) ↔ ((asd &&& (set ^^^ (-1))) = 0 ∧ s_X0_brokenBy n hd fi un set on = 0 ∧ s_X0_comesOf n hd fi un (asd ||| (may &&& set)) on set = set) := by
  unfold s_X0_upholds
  by_cases c1 : (asd &&& (set ^^^ (-1))) = 0
  · rw [if_pos c1]
    by_cases c2 : s_X0_brokenBy n hd fi un set on = 0
    · rw [if_pos c2]
      by_cases c3 : s_X0_comesOf n hd fi un (asd ||| (may &&& set)) on set = set
      · rw [if_pos c3]; exact ⟨fun _ => ⟨c1, c2, c3⟩, fun _ => by decide⟩
      · rw [if_neg c3]; exact ⟨fun q => absurd rfl q, fun q => absurd q.2.2 c3⟩
    · rw [if_neg c2]; exact ⟨fun q => absurd rfl q, fun q => absurd q.2.1 c2⟩
  · rw [if_neg c1]; exact ⟨fun q => absurd rfl q, fun q => absurd q.1 c1⟩
theorem off_bit {on off : Int32} {k : Nat} (hk : k < 32) : s_X2_bitOf (on &&& (off ^^^ (-1))) (nI k) = 1 ↔ (bt on k = true ∧ bt off k = false) := by
  rw [bo_1 _ hk, b_and, b_not off hk, Bool.and_eq_true, Bool.not_eq_true']
/-- if a set stands with some rules off, it stands with just those off that it breaks, and these are among them -/
theorem gu_key (hn : n ≤ 10) (hh : Hok n hd) {may set on asd off : Int32} (hs : V8 set) (ha : V8 asd) (h : ¬ s_X0_upholds n may hd fi un set (on &&& (off ^^^ (-1))) asd = 0) : (∀ i, i < 32 → bt (s_X0_brokenBy n hd fi un set on) i = true → bt off i = true) ∧ ¬ s_X0_upholds n may hd fi un set (on &&& (s_X0_brokenBy n hd fi un set on ^^^ (-1))) asd = 0 := by
  rw [up_iff] at h
  obtain ⟨h1, h2, h3⟩ := h
  rw [brk_0 hn] at h2
  have hsub : ∀ i, i < 32 → bt (s_X0_brokenBy n hd fi un set on) i = true → bt off i = true := by
    intro i hi q
    obtain ⟨z1, z2, z3⟩ := (brk_iff hn set on hi).mp q
    cases e : bt off i
    · exact absurd ⟨(off_bit hi).mpr ⟨(bo_1 on hi).mp z2, e⟩, z3⟩ (h2 i z1)
    · rfl
  refine ⟨hsub, ?_⟩
  rw [up_iff]
  refine ⟨h1, ?_, ?_⟩
  · rw [brk_0 hn]
    intro k hk ⟨z1, z2⟩
    obtain ⟨y1, y2⟩ := (off_bit (by omega)).mp z1
    have := (brk_iff (fi := fi) (un := un) (hd := hd) hn set on (i := k) (by omega)).mpr ⟨hk, (bo_1 on (by omega)).mpr y1, z2⟩
    rw [y2] at this
    exact absurd this (by decide)
  · have lo : sb set (s_X0_comesOf n hd fi un (asd ||| (may &&& set)) (on &&& (s_X0_brokenBy n hd fi un set on ^^^ (-1))) set) := by
      have := comes_on (fi := fi) (un := un) hh (c := asd ||| (may &&& set)) (ag := set) (on := on &&& (off ^^^ (-1))) (on' := on &&& (s_X0_brokenBy n hd fi un set on ^^^ (-1))) (fun k hk q => by
        rw [off_bit (by omega)] at q ⊢
        refine ⟨q.1, ?_⟩
        cases e : bt (s_X0_brokenBy n hd fi un set on) k
        · rfl
        · rw [hsub k (by omega) e] at q; exact absurd q.2 (by decide))
      rw [h3] at this
      exact this
    have up : sb (s_X0_comesOf n hd fi un (asd ||| (may &&& set)) (on &&& (s_X0_brokenBy n hd fi un set on ^^^ (-1))) set) set := by
      rw [comes_it]
      have : ∀ m : Nat, sb (itr (fun _ x => s_X0_nextRound n hd fi un x (on &&& (s_X0_brokenBy n hd fi un set on ^^^ (-1))) set) (asd ||| (may &&& set)) m) set := by
        intro m
        induction m with
        | zero =>
          intro i hi q
          rw [itr_zero, b_or, Bool.or_eq_true, b_and, Bool.and_eq_true] at q
          rcases q with q | q
          · exact (sub_0 _ _).mp h1 i hi q
          · exact q.2
        | succ m ih =>
          intro i hi q
          rw [itr_succ, nr_iff hh _ _ _ hi] at q
          rcases q with q | ⟨k, hk, z1, z2, z3, z4, z5⟩
          · exact ih i hi q
          · obtain ⟨y1, y2⟩ := (off_bit (by omega)).mp z1
            cases e : bt set i
            · have := (brk_iff (fi := fi) (un := un) (hd := hd) hn set on (i := k) (by omega)).mpr ⟨hk, (bo_1 on (by omega)).mpr y1, by rw [z2]; exact (bo_0 set hi).mpr e, by
                rw [sub_0] at z4 ⊢
                exact fun j hj w => ih j hj (z4 j hj w), z5⟩
              rw [y2] at this
              exact absurd this (by decide)
            · rfl
      exact this 8
    apply b_ext
    intro i hi
    exact Bool.eq_iff_iff.mpr ⟨up i hi, lo i hi⟩
end GV
section GS
variable {n len : Nat} {on may asd kept : Int32} {hd fi un hdm fim unm by_ tx io ia kp ko ka : Nat → Int32}
theorem any_iff {sme : Int32} : s_X3_isAny n hdm fim unm may asd sme = 0 ↔ ∀ j, j < 256 → s_X3_doesStand n hdm fim unm may (nI j) sme asd = 0 := by
  have e : s_X3_isAny n hdm fim unm may asd sme = onE (itE (fun j (_ : Unit) => if ¬ s_X3_doesStand n hdm fim unm may (nI j) sme asd = 0 then (.inl 1 : Int32 ⊕ Unit) else .inr ()) () 256) (fun _ => 0) := by
    unfold s_X3_isAny
    rw [itE_congr (g := fun j (_ : Unit) => if ¬ s_X3_doesStand n hdm fim unm may (nI j) sme asd = 0 then (.inl 1 : Int32 ⊕ Unit) else .inr ()) 256 (fun k hk u => ?_)]
    unfold f_X3_isAny_2
    by_cases c : s_X3_doesStand n hdm fim unm may (nI k) sme asd = 0
    · rw [if_pos c, if_neg (fun z => z c)]
    · rw [if_neg c, if_pos c]
  rw [e]
  rcases first_it (P := fun j => ¬ s_X3_doesStand n hdm fim unm may (nI j) sme asd = 0) (fun _ => (1 : Int32)) 256 with ⟨z, h⟩ | ⟨x, hx, hp, h, z⟩
  · rw [z]; exact ⟨fun _ j hj => Classical.byContradiction (h j hj), fun _ => rfl⟩
  · rw [z]; exact ⟨fun q => absurd q (by decide), fun q => absurd (q x hx) hp⟩
theorem q_givesUp (hR : Rel n len on may asd kept hd fi un hdm fim unm by_ tx io ia kp ko ka) : s_X2_givesUp n may hd fi un on asd = s_X3_givesUp n hdm fim unm may on asd := by
  obtain ⟨o, ho, rfl⟩ := vp_in_of hR.hon (by omega)
  have brn : ∀ s : Nat, ∃ x, x < 1024 ∧ s_X0_brokenBy n hd fi un (nI s) (nI o) = nI x ∧ x ||| o = o := by
    intro s
    have hb : ∀ i, i < 32 → bt (s_X0_brokenBy n hd fi un (nI s) (nI o)) i = true → o.testBit i = true := fun i hi q => by
      have := ((brk_iff hR.hn (nI s) (nI o) hi).mp q).2.1
      rw [bo_1 _ hi, b_nI hi] at this
      exact this
    refine ⟨(s_X0_brokenBy n hd fi un (nI s) (nI o)).toBitVec.toNat, ?_, nI_self _, ?_⟩
    · refine Nat.lt_pow_two_of_testBit (n := 10) _ (fun i hi => ?_)
      cases e : (s_X0_brokenBy n hd fi un (nI s) (nI o)).toBitVec.toNat.testBit i
      · rfl
      · rcases Nat.lt_or_ge i 32 with z | z
        · have := hb i z e
          rw [Nat.testBit_lt_two_pow (Nat.lt_of_lt_of_le ho (pw (k := 10) hi))] at this
          exact absurd this (by decide)
        · rw [Nat.testBit_lt_two_pow (Nat.lt_of_lt_of_le (s_X0_brokenBy n hd fi un (nI s) (nI o)).toBitVec.isLt (Nat.pow_le_pow_right (by omega) z))] at e
          exact absurd e (by decide)
    · apply Nat.eq_of_testBit_eq
      intro i
      rw [Nat.testBit_or]
      cases e : (s_X0_brokenBy n hd fi un (nI s) (nI o)).toBitVec.toNat.testBit i
      · rfl
      · rcases Nat.lt_or_ge i 32 with z | z
        · rw [hb i z e]; rfl
        · rw [Nat.testBit_lt_two_pow (Nat.lt_of_lt_of_le (s_X0_brokenBy n hd fi un (nI s) (nI o)).toBitVec.isLt (Nat.pow_le_pow_right (by omega) z))] at e
          exact absurd e (by decide)
  obtain ⟨br, hbr⟩ : ∃ br : Nat → Nat, ∀ s, br s < 1024 ∧ s_X0_brokenBy n hd fi un (nI s) (nI o) = nI (br s) ∧ br s ||| o = o := ⟨fun s => (brn s).choose, fun s => (brn s).choose_spec⟩
  unfold s_X2_givesUp s_X3_givesUp
  rw [nI_clamp (by omega)]
  have b1 : Best (o + 1) (fun j => ((nI j) &&& (nI o ^^^ (-1))) = 0 ∧ ¬ s_X3_isAny n hdm fim unm may asd (nI o &&& ((nI j) ^^^ (-1))) = 0) (itr (f_X3_givesUp_5 n hdm fim unm may (nI o) asd) (-9) (o + 1)) := best_it (A := fun j => (nI j) &&& (nI o ^^^ (-1))) (T := fun j => s_X3_isAny n hdm fim unm may asd (nI o &&& ((nI j) ^^^ (-1)))) (fun j b => rfl) (o + 1) (by omega)
  refine Best.eq ?_ b1
  have c1 := gu_it (N := 0) (bk := fun s => s_X0_brokenBy n hd fi un (nI s) (nI o)) (br := br) (up := fun s => s_X0_upholds n may hd fi un (nI s) (nI o &&& (s_X0_brokenBy n hd fi un (nI s) (nI o) ^^^ (-1))) asd) (fun s _ => ⟨(hbr s).2.1, (hbr s).1⟩) (f := f_X2_givesUp_5 n may hd fi un (nI o) asd) (fun s b => rfl) 256 (Nat.le_refl _)
  have low : ∀ j, j < o + 1 → (((nI j) &&& (nI o ^^^ (-1))) = 0 ∧ ¬ s_X3_isAny n hdm fim unm may asd (nI o &&& ((nI j) ^^^ (-1))) = 0) → ∃ s, s < 256 ∧ (¬ s_X0_upholds n may hd fi un (nI s) (nI o &&& (s_X0_brokenBy n hd fi un (nI s) (nI o) ^^^ (-1))) asd = 0) ∧ po (br s) ≤ po j ∧ (po j = po (br s) → br s = j) := by
    intro j hj ⟨q1, q2⟩
    have q3 : ∃ s, s < 256 ∧ ¬ s_X3_doesStand n hdm fim unm may (nI s) (nI o &&& ((nI j) ^^^ (-1))) asd = 0 := Classical.byContradiction (fun z => q2 (any_iff.mpr (fun s hs => Classical.byContradiction (fun y => z ⟨s, hs, y⟩))))
    obtain ⟨s, hs, q4⟩ := q3
    rw [← hR.st hs _ hR.va] at q4
    obtain ⟨k1, k2⟩ := gu_key hR.hn hR.hok (V8_nI hs) hR.va q4
    refine ⟨s, hs, k2, po_sub (hbr s).1 (by omega) ?_⟩
    apply Nat.eq_of_testBit_eq
    intro i
    rw [Nat.testBit_or]
    cases e : (br s).testBit i
    · rfl
    · rcases Nat.lt_or_ge i 32 with z | z
      · have := k1 i z (by rw [(hbr s).2.1, b_nI z]; exact e)
        rw [b_nI z] at this
        rw [this]; rfl
      · rw [Nat.testBit_lt_two_pow (Nat.lt_of_lt_of_le (hbr s).1 (pw (k := 10) (by omega)))] at e
        exact absurd e (by decide)
  show Best _ _ (itr (f_X2_givesUp_5 n may hd fi un (nI o) asd) (-9) 256)
  rcases c1 with ⟨e, h⟩ | ⟨t, ht, e, q, ot, h⟩
  · rw [e]
    refine Or.inl ⟨rfl, fun j hj hq => ?_⟩
    obtain ⟨s, hs, k, l1, l2⟩ := low j hj hq
    have := h s hs k
    omega
  · rw [e]
    have hlt : br t ≤ o := by
      have := Nat.left_le_or (n := br t) (m := o)
      rw [(hbr t).2.2] at this
      exact this
    refine Or.inr ⟨br t, by omega, rfl, ⟨?_, ?_⟩, ot, fun j hj hq => ?_⟩
    · rw [sub_0]
      intro i hi y
      rw [b_nI hi] at y ⊢
      rw [← (hbr t).2.2, Nat.testBit_or, y]; rfl
    · rw [any_iff]
      intro z
      have := z t ht
      rw [← hR.st ht _ hR.va, ← (hbr t).2.1] at this
      exact q this
    · obtain ⟨s, hs, k, l1, l2⟩ := low j hj hq
      have := h s hs k
      refine ⟨by omega, fun y => ?_⟩
      have y1 := l2 (by omega)
      have y2 := this.2 (by omega)
      omega
end GS
