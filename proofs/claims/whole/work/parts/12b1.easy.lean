theorem p3 {α β γ : Type} {a a' : α} {b b' : β} {c c' : γ} (h : (a, b, c) = (a', b', c')) : a = a' ∧ b = b' ∧ c = c' := by
  cases h; exact ⟨rfl, rfl, rfl⟩
theorem p4 {α β γ δ : Type} {a a' : α} {b b' : β} {c c' : γ} {d d' : δ} (h : (a, b, c, d) = (a', b', c', d')) : a = a' ∧ b = b' ∧ c = c' ∧ d = d' := by
  cases h; exact ⟨rfl, rfl, rfl, rfl⟩
theorem tr_1 (t : Int64) : t + 10 + 1 = t + 1 + 10 := by rw [Int64.add_assoc, Int64.add_assoc]; rfl
theorem tr_2 (t : Int64) : t + 100 + 1 = t + 1 + 100 := by rw [Int64.add_assoc, Int64.add_assoc]; rfl
theorem tr_3 (t : Int64) : t + 1000 + 10 + 1 = t + 1 + 1010 := by rw [Int64.add_assoc, Int64.add_assoc, Int64.add_assoc t 1 1010]; rfl
theorem tr_4 (t : Int64) : t + 10000 + 100 + 1 = t + 1 + 10100 := by rw [Int64.add_assoc, Int64.add_assoc, Int64.add_assoc t 1 10100]; rfl
theorem tr_5 (t : Int64) : t + 100000 + 1 = t + 1 + 100000 := by rw [Int64.add_assoc, Int64.add_assoc]; rfl
section QA
variable {n len : Nat} {on may asd kept : Int32} {hd fi un hdm fim unm by_ tx io ia kp ko ka : Nat → Int32}
theorem q_clear {r1 r2 ln1 td2 : Int32} (hR : Rel n len on may asd kept hd fi un hdm fim unm by_ tx io ia kp ko ka) (h1 : (r1, ln1) = s_X2_clear (nI len)) (h2 : (r2, td2) = s_X3_clear (nI len)) : r1 = r2 ∧ ln1 = nI 0 ∧ td2 = nI 0 ∧ Rel n 0 on may asd kept hd fi un hdm fim unm by_ tx io ia kp ko ka := by
  unfold s_X2_clear at h1
  unfold s_X3_clear at h2
  obtain ⟨rfl, rfl⟩ := Prod.mk.inj h1
  obtain ⟨rfl, rfl⟩ := Prod.mk.inj h2
  obtain ⟨⟨a1, a2, a3⟩, b, c, d⟩ := hR
  exact ⟨rfl, rfl, rfl, ⟨a1, by omega, a3⟩, b, fun i hi => absurd hi (Nat.not_lt_zero i), d⟩
theorem q_rule (hR : Rel n len on may asd kept hd fi un hdm fim unm by_ tx io ia kp ko ka) (k what : Int32) : s_X2_rule n hd fi un on k what = s_X3_rule n hdm fim unm on k what := by
  unfold s_X2_rule s_X3_rule
  by_cases c : s_X2_isRule n k = 0
  · rw [if_pos c, if_pos ((isRule_eq hR.hn k).mp c)]
  · rw [if_neg c, if_neg (fun q => c ((isRule_eq hR.hn k).mpr q))]
    obtain ⟨u, hu, rfl⟩ := isRule_of hR.hn c
    obtain ⟨e1, e2, e3, -⟩ := hR.2.1 u hu
    have hn := hR.hn
    rw [nI_clamp (by omega), e1, e2, e3]
    have e0 : (0 : Int64).toInt = 0 := rfl
    have e4 : (3 : Int64).toInt = 3 := rfl
    by_cases w0 : what = 0
    · subst w0; rw [if_pos rfl, if_neg (by decide), if_pos rfl]
    · by_cases w1 : what = 1
      · subst w1; rw [if_neg (by decide), if_pos rfl, if_neg (by decide), if_neg (by decide), if_pos rfl]
      · by_cases w2 : what = 2
        · subst w2; rw [if_neg (by decide), if_neg (by decide), if_pos rfl, if_neg (by decide), if_neg (by decide), if_neg (by decide), if_pos rfl]
        · by_cases w3 : what = 3
          · subst w3; rw [if_neg (by decide), if_neg (by decide), if_neg (by decide), if_pos rfl, if_neg (by decide), if_neg (by decide), if_neg (by decide), if_neg (by decide)]; rfl
          · have c4 : s_X3_in what.toInt64 0 3 = 0 := by
              rw [in_0, e0, e4]
              intro q
              rcases (show what.toInt = 0 ∨ what.toInt = 1 ∨ what.toInt = 2 ∨ what.toInt = 3 by omega) with z | z | z | z
              · exact w0 (Int32.toInt_inj.mp z)
              · exact w1 (Int32.toInt_inj.mp z)
              · exact w2 (Int32.toInt_inj.mp z)
              · exact w3 (Int32.toInt_inj.mp z)
            rw [if_neg w0, if_neg w1, if_neg w2, if_neg w3, if_pos c4]
theorem q_turn {k v r1 r2 on1 on2 : Int32} (hR : Rel n len on may asd kept hd fi un hdm fim unm by_ tx io ia kp ko ka) (h1 : (r1, on1) = s_X2_turn n on k v) (h2 : (r2, on2) = s_X3_turn n on k v) : r1 = r2 ∧ on1 = on2 ∧ Rel n len on1 may asd kept hd fi un hdm fim unm by_ tx io ia kp ko ka := by
  unfold s_X2_turn at h1
  unfold s_X3_turn at h2
  by_cases c : s_X2_isRule n k = 0
  · rw [if_pos c] at h1
    rw [if_pos ((isRule_eq hR.hn k).mp c)] at h2
    obtain ⟨rfl, rfl⟩ := Prod.mk.inj h1
    obtain ⟨rfl, rfl⟩ := Prod.mk.inj h2
    exact ⟨rfl, rfl, hR⟩
  · rw [if_neg c] at h1
    rw [if_neg (fun q => c ((isRule_eq hR.hn k).mpr q))] at h2
    obtain ⟨u, hu, rfl⟩ := isRule_of hR.hn c
    by_cases d : s_X2_isBit v = 0
    · rw [if_pos d] at h1
      rw [if_pos ((isBit_eq v).mp d)] at h2
      obtain ⟨rfl, rfl⟩ := Prod.mk.inj h1
      obtain ⟨rfl, rfl⟩ := Prod.mk.inj h2
      exact ⟨rfl, rfl, hR⟩
    · rw [if_neg d] at h1
      rw [if_neg (fun q => d ((isBit_eq v).mpr q))] at h2
      have hn := hR.hn
      have hp : 2 ^ n ≤ 2 ^ 10 := Nat.pow_le_pow_right (by omega) hn
      obtain ⟨⟨a1, a2, a3, a4⟩, b, cc, dd⟩ := hR
      rcases isBit_of d with rfl | rfl
      · rw [if_neg (by decide)] at h2
        rw [withBit_0 on (by omega)] at h1
        obtain ⟨rfl, rfl⟩ := Prod.mk.inj h1
        obtain ⟨rfl, rfl⟩ := Prod.mk.inj h2
        exact ⟨rfl, rfl, ⟨a1, a2, vp_and a3 (by omega) _, a4⟩, b, cc, dd⟩
      · rw [if_pos rfl] at h2
        rw [withBit_1] at h1
        obtain ⟨rfl, rfl⟩ := Prod.mk.inj h1
        obtain ⟨rfl, rfl⟩ := Prod.mk.inj h2
        exact ⟨rfl, rfl, ⟨a1, a2, vp_bit a3 hn hu, a4⟩, b, cc, dd⟩
theorem q_assume {a v r1 r2 asd1 asd2 : Int32} (hR : Rel n len on may asd kept hd fi un hdm fim unm by_ tx io ia kp ko ka) (h1 : (r1, asd1) = s_X2_assume asd a v) (h2 : (r2, asd2) = s_X3_assume asd a v) : r1 = r2 ∧ asd1 = asd2 ∧ Rel n len on may asd1 kept hd fi un hdm fim unm by_ tx io ia kp ko ka := by
  unfold s_X2_assume at h1
  unfold s_X3_assume at h2
  by_cases c : s_X2_isSentence a = 0
  · rw [if_pos c] at h1
    rw [if_pos ((isSent_eq a).mp c)] at h2
    obtain ⟨rfl, rfl⟩ := Prod.mk.inj h1
    obtain ⟨rfl, rfl⟩ := Prod.mk.inj h2
    exact ⟨rfl, rfl, hR⟩
  · rw [if_neg c] at h1
    rw [if_neg (fun q => c ((isSent_eq a).mpr q))] at h2
    obtain ⟨u, hu, rfl⟩ := isSent_of c
    by_cases d : s_X2_isBit v = 0
    · rw [if_pos d] at h1
      rw [if_pos ((isBit_eq v).mp d)] at h2
      obtain ⟨rfl, rfl⟩ := Prod.mk.inj h1
      obtain ⟨rfl, rfl⟩ := Prod.mk.inj h2
      exact ⟨rfl, rfl, hR⟩
    · rw [if_neg d] at h1
      rw [if_neg (fun q => d ((isBit_eq v).mpr q))] at h2
      obtain ⟨⟨a1, a2, a3, a4, a5⟩, b, cc, dd⟩ := hR
      rcases isBit_of d with rfl | rfl
      · rw [if_neg (by decide)] at h2
        rw [withBit_0 asd (by omega)] at h1
        obtain ⟨rfl, rfl⟩ := Prod.mk.inj h1
        obtain ⟨rfl, rfl⟩ := Prod.mk.inj h2
        exact ⟨rfl, rfl, ⟨a1, a2, a3, a4, vp_and a5 (by omega) _⟩, b, cc, dd⟩
      · rw [if_pos rfl] at h2
        rw [withBit_1] at h1
        obtain ⟨rfl, rfl⟩ := Prod.mk.inj h1
        obtain ⟨rfl, rfl⟩ := Prod.mk.inj h2
        exact ⟨rfl, rfl, ⟨a1, a2, a3, a4, vp_bit (N := 8) a5 (by omega) hu⟩, b, cc, dd⟩
theorem q_count (hR : Rel n len on may asd kept hd fi un hdm fim unm by_ tx io ia kp ko ka) (what : Int32) : s_X2_count n may on asd (nI len) what = s_X3_count n on may asd (nI len) what := by
  unfold s_X2_count s_X3_count
  rw [cnt_eq hR.hon (by omega)]
theorem q_keep {image r1 r2 kept1 : Int32} {io1 ia1 kp2 ko2 ka2 : Nat → Int32} (hR : Rel n len on may asd kept hd fi un hdm fim unm by_ tx io ia kp ko ka) (h1 : (r1, io1, ia1, kept1) = s_X2_keep on asd io ia kept image) (h2 : (r2, kp2, ko2, ka2) = s_X3_keep on asd kp ko ka image) : r1 = r2 ∧ Rel n len on may asd kept1 hd fi un hdm fim unm by_ tx io1 ia1 kp2 ko2 ka2 := by
  unfold s_X2_keep at h1
  unfold s_X3_keep at h2
  by_cases c : s_X2_isImage image = 0
  · rw [if_pos c] at h1
    rw [if_pos ((isImage_eq image).mp c)] at h2
    obtain ⟨rfl, rfl, rfl, rfl⟩ := p4 h1
    obtain ⟨rfl, rfl, rfl, rfl⟩ := p4 h2
    exact ⟨rfl, hR⟩
  · rw [if_neg c, cnt_eq hR.hon (by omega)] at h1
    rw [if_neg (fun q => c ((isImage_eq image).mpr q))] at h2
    obtain ⟨u, hu, rfl⟩ := isImage_of c
    rw [nI_clamp (by omega)] at h1 h2
    obtain ⟨rfl, rfl, rfl, rfl⟩ := p4 h1
    obtain ⟨rfl, rfl, rfl, rfl⟩ := p4 h2
    obtain ⟨⟨a1, a2, a3, a4, a5⟩, b, cc, dd⟩ := hR
    refine ⟨rfl, ⟨a1, a2, a3, a4, a5⟩, b, cc, fun i hi => ?_⟩
    by_cases e : i = u
    · subst e
      right
      have h1 : upd kp i (vp_nar .boolean 1) i = vp_nar .boolean 1 := if_pos rfl
      have h2 : upd io i on i = on := if_pos rfl
      have h3 : upd ia i asd i = asd := if_pos rfl
      have h4 : upd ko i on i = on := if_pos rfl
      have h5 : upd ka i asd i = asd := if_pos rfl
      rw [h1, h2, h3, h4, h5]
      refine ⟨by decide +kernel, ?_, rfl, rfl, a3, a5⟩
      rw [bo_0 _ (by omega), b_or, b_one i (by omega) (by omega)]
      simp
    · have h1 : upd kp u (vp_nar .boolean 1) i = kp i := if_neg e
      have h2 : upd io u on i = io i := if_neg e
      have h3 : upd ia u asd i = ia i := if_neg e
      have h4 : upd ko u on i = ko i := if_neg e
      have h5 : upd ka u asd i = ka i := if_neg e
      have h6 : s_X2_bitOf (kept ||| (1 <<< (nI u &&& 31))) (nI i) = s_X2_bitOf kept (nI i) := by
        rw [bo_bt _ (by omega), bo_bt _ (by omega), b_or, b_one u (by omega) (by omega), decide_eq_false e, Bool.or_false]
      rw [h1, h2, h3, h4, h5, h6]
      exact dd i hi
theorem q_back {image r1 r2 on1 asd1 on2 asd2 : Int32} (hR : Rel n len on may asd kept hd fi un hdm fim unm by_ tx io ia kp ko ka) (h1 : (r1, on1, asd1) = s_X2_back on asd io ia kept image) (h2 : (r2, on2, asd2) = s_X3_back on asd kp ko ka image) : r1 = r2 ∧ on1 = on2 ∧ asd1 = asd2 ∧ Rel n len on1 may asd1 kept hd fi un hdm fim unm by_ tx io ia kp ko ka := by
  unfold s_X2_back at h1
  unfold s_X3_back at h2
  by_cases c : s_X2_isImage image = 0
  · rw [if_pos c] at h1
    rw [if_pos ((isImage_eq image).mp c)] at h2
    obtain ⟨rfl, rfl, rfl⟩ := p3 h1
    obtain ⟨rfl, rfl, rfl⟩ := p3 h2
    exact ⟨rfl, rfl, rfl, hR⟩
  · rw [if_neg c] at h1
    rw [if_neg (fun q => c ((isImage_eq image).mpr q))] at h2
    obtain ⟨u, hu, rfl⟩ := isImage_of c
    rw [nI_clamp (by omega)] at h1 h2
    have hn := hR.hn
    have hp : 2 ^ n ≤ 2 ^ 10 := Nat.pow_le_pow_right (by omega) hn
    rcases hR.2.2.2 u hu with ⟨z1, z2⟩ | ⟨z1, z2, z3, z4, z5, z6⟩
    · rw [if_pos z2] at h1
      rw [if_pos z1] at h2
      obtain ⟨rfl, rfl, rfl⟩ := p3 h1
      obtain ⟨rfl, rfl, rfl⟩ := p3 h2
      exact ⟨rfl, rfl, rfl, hR⟩
    · rw [if_neg z2, z3, z4, cnt_eq z5 (by omega)] at h1
      rw [if_neg z1] at h2
      obtain ⟨rfl, rfl, rfl⟩ := p3 h1
      obtain ⟨rfl, rfl, rfl⟩ := p3 h2
      obtain ⟨⟨a1, a2, a3, a4, a5⟩, b, cc, dd⟩ := hR
      exact ⟨rfl, rfl, rfl, ⟨a1, a2, z5, a4, z6⟩, b, cc, dd⟩
theorem q_mark {kind k r1 r2 : Int32} {tr tr1 tr2 : Int64} (hR : Rel n len on may asd kept hd fi un hdm fim unm by_ tx io ia kp ko ka) (h1 : (r1, tr1) = s_X2_mark n hd fi un on tr kind k) (h2 : (r2, tr2) = s_X3_mark n hdm fim unm on tr kind k) : r1 = r2 ∧ tr1 = tr2 ∧ Rel n len on may asd kept hd fi un hdm fim unm by_ tx io ia kp ko ka := by
  have key : s_X2_mark n hd fi un on tr kind k = s_X3_mark n hdm fim unm on tr kind k := by
    unfold s_X2_mark s_X3_mark
    have e0 : (0 : Int64).toInt = 0 := rfl
    have e5 : (5 : Int64).toInt = 5 := rfl
    by_cases c : s_X2_isRule n k = 0
    · rw [if_pos c, if_pos ((isRule_eq hR.hn k).mp c)]
      split <;> rfl
    · rw [if_neg c, if_neg (fun q => c ((isRule_eq hR.hn k).mpr q))]
      obtain ⟨u, hu, rfl⟩ := isRule_of hR.hn c
      obtain ⟨f1, f2, f3, f4, f5, f6⟩ := hR.2.1 u hu
      have hn := hR.hn
      unfold s_X2_markOfOath s_X2_markOfCustom s_X2_markOfDecree s_X2_markOfHabit s_X2_markOfLaw s_X2_markOfRule s_X2_bitOf
      rw [nI_clamp (by omega), f1, f2, f3, cnt_eq f5 (by omega), cnt_eq f6 (by omega)]
      dsimp only
      generalize s_X3_ones (fi u) = x
      generalize s_X3_ones (un u) = y
      by_cases w0 : kind = 0
      · subst w0; rw [if_pos rfl, if_neg (by decide), if_neg (by decide), if_neg (by decide), if_neg (by decide), if_neg (by decide), if_neg (by decide)]
      · by_cases w1 : kind = 1
        · subst w1; rw [if_neg (by decide), if_pos rfl, if_neg (by decide), if_pos rfl]; rw [tr_1, Int32.mul_comm]
        · by_cases w2 : kind = 2
          · subst w2; rw [if_neg (by decide), if_neg (by decide), if_pos rfl, if_neg (by decide), if_neg (by decide), if_pos rfl]; rw [tr_2]
          · by_cases w3 : kind = 3
            · subst w3; rw [if_neg (by decide), if_neg (by decide), if_neg (by decide), if_pos rfl, if_neg (by decide), if_neg (by decide), if_neg (by decide), if_pos rfl]; rw [tr_3, Int32.mul_comm]
            · by_cases w4 : kind = 4
              · subst w4; rw [if_neg (by decide), if_neg (by decide), if_neg (by decide), if_neg (by decide), if_pos rfl, if_neg (by decide), if_neg (by decide), if_neg (by decide), if_neg (by decide), if_pos rfl]; rw [tr_4]
              · by_cases w5 : kind = 5
                · subst w5; rw [if_neg (by decide), if_neg (by decide), if_neg (by decide), if_neg (by decide), if_neg (by decide), if_pos rfl, if_neg (by decide), if_neg (by decide), if_neg (by decide), if_neg (by decide), if_neg (by decide), if_pos rfl]; rw [tr_5]
                · have c6 : s_X3_in kind.toInt64 0 5 = 0 := by
                    rw [in_0, e0, e5]
                    intro q
                    rcases (show kind.toInt = 0 ∨ kind.toInt = 1 ∨ kind.toInt = 2 ∨ kind.toInt = 3 ∨ kind.toInt = 4 ∨ kind.toInt = 5 by omega) with z | z | z | z | z | z
                    · exact w0 (Int32.toInt_inj.mp z)
                    · exact w1 (Int32.toInt_inj.mp z)
                    · exact w2 (Int32.toInt_inj.mp z)
                    · exact w3 (Int32.toInt_inj.mp z)
                    · exact w4 (Int32.toInt_inj.mp z)
                    · exact w5 (Int32.toInt_inj.mp z)
                  rw [if_pos c6, if_neg w0, if_neg w1, if_neg w2, if_neg w3, if_neg w4, if_neg w5]
  rw [key, ← h2] at h1
  obtain ⟨rfl, rfl⟩ := Prod.mk.inj h1
  exact ⟨rfl, rfl, hR⟩
end QA
theorem q_start : Rel 0 0 0 0 0 0 (fun _ => 0) (fun _ => 0) (fun _ => 0) (fun _ => 0) (fun _ => 0) (fun _ => 0) (fun _ => 0) (fun _ => 0) (fun _ => 0) (fun _ => 0) (fun _ => 0) (fun _ => 0) (fun _ => 0) := by
  refine ⟨⟨by omega, by omega, ?_, ?_, ?_⟩, fun k hk => absurd hk (Nat.not_lt_zero k), fun k hk => absurd hk (Nat.not_lt_zero k), fun i hi => Or.inl ⟨rfl, ?_⟩⟩
  · exact vp_in_nI (n := 0) (by omega) (by omega)
  · exact vp_in_nI (n := 0) (by omega) (by omega)
  · exact vp_in_nI (n := 0) (by omega) (by omega)
  · rw [bo_0 _ (by omega), b_0]
