def sb (x y : Int32) : Prop := ∀ i, i < 32 → bt x i = true → bt y i = true
section KN
variable {n : Nat} {hd fi un : Nat → Int32}
theorem nr_mono (hh : Hok n hd) {c c' ag ag' : Int32} (on : Int32) (h1 : sb c c') (h2 : sb ag' ag) : sb (s_X0_nextRound n hd fi un c on ag) (s_X0_nextRound n hd fi un c' on ag') := by
  intro i hi h
  rw [nr_iff hh _ _ _ hi] at h ⊢
  rcases h with h | ⟨k, hk, z1, z2, z3, z4, z5⟩
  · exact Or.inl (h1 i hi h)
  · refine Or.inr ⟨k, hk, z1, z2, z3, ?_, ?_⟩
    · rw [sub_0] at z4 ⊢
      exact fun j hj q => h1 j hj (z4 j hj q)
    · rw [dis_0] at z5 ⊢
      intro j hj q
      cases e : bt ag' j
      · rfl
      · have := h2 j hj e
        rw [z5 j hj q] at this
        exact absurd this (by decide)
theorem it_mono (hh : Hok n hd) {ag ag' : Int32} (on : Int32) (h2 : sb ag' ag) {c c' : Int32} (h1 : sb c c') : ∀ m : Nat, sb (itr (fun _ x => s_X0_nextRound n hd fi un x on ag) c m) (itr (fun _ x => s_X0_nextRound n hd fi un x on ag') c' m)
  | 0 => h1
  | m + 1 => nr_mono hh on (it_mono hh on h2 h1 m) h2
theorem comes_mono (hh : Hok n hd) {c c' ag ag' : Int32} (on : Int32) (h1 : sb c c') (h2 : sb ag' ag) : sb (s_X0_comesOf n hd fi un c on ag) (s_X0_comesOf n hd fi un c' on ag') := by
  rw [comes_it, comes_it]
  exact it_mono hh on h2 h1 8
def KF (n : Nat) (hd fi un : Nat → Int32) (may on asd : Int32) (p : Int32 × Int32) : Int32 × Int32 := (s_X0_comesOf n hd fi un asd on p.2, s_X0_comesOf n hd fi un (asd ||| may) on (s_X0_comesOf n hd fi un asd on p.2))
def KR (a : Int32) (p : Int32 × Int32) : Int32 := if s_X2_bitOf p.1 a = 1 then 1 else if s_X2_bitOf p.2 a = 0 then 0 else -9
def KB (p : Int32 × Int32) (i : Nat) : Bool := if i < 8 then bt p.1 i else !bt p.2 (i - 8)
def KO (n : Nat) (hd fi un : Nat → Int32) (may on asd : Int32) (p : Int32 × Int32) : Prop := V8 p.1 ∧ V8 p.2 ∧ sb p.1 (KF n hd fi un may on asd p).1 ∧ sb (KF n hd fi un may on asd p).2 p.2
theorem KF_fix (hh : Hok n hd) {may on asd : Int32} (hm : V8 may) (ha : V8 asd) : KF n hd fi un may on asd (itr (fun _ => KF n hd fi un may on asd) (0, 255) 16) = itr (fun _ => KF n hd fi un may on asd) (0, 255) 16 := by
  refine fixN 16 (KF n hd fi un may on asd) KB (KO n hd fi un may on asd) ?_ ?_ ?_ (0, 255) ?_
  · rintro ⟨a1, a2⟩ ⟨b1, b2⟩ ha hb h
    have e1 : a1 = b1 := V8_ext ha.1 hb.1 (fun i hi => by
      have := h i (by omega)
      unfold KB at this
      rw [if_pos hi, if_pos hi] at this
      exact this)
    have e2 : a2 = b2 := V8_ext ha.2.1 hb.2.1 (fun i hi => by
      have := h (i + 8) (by omega)
      unfold KB at this
      rw [if_neg (by omega), if_neg (by omega), Nat.add_sub_cancel] at this
      revert this
      show (!bt a2 i) = (!bt b2 i) → _
      cases bt a2 i <;> cases bt b2 i <;> intro q <;> first | rfl | exact absurd q (by decide))
    rw [e1, e2]
  · rintro p ⟨h1, h2, h3, h4⟩
    refine ⟨comes_V8 hh on _ ha, comes_V8 hh on _ (V8_or ha hm), ?_, ?_⟩
    · exact comes_mono hh on (fun i hi q => q) h4
    · exact comes_mono hh on (fun i hi q => q) (comes_mono hh on (fun i hi q => q) h4)
  · rintro p ⟨h1, h2, h3, h4⟩ i hi q
    unfold KB at q ⊢
    by_cases c : i < 8
    · rw [if_pos c] at q ⊢
      exact h3 i (by omega) q
    · rw [if_neg c] at q ⊢
      have h5 := h4 (i - 8) (by omega)
      cases e : bt (KF n hd fi un may on asd p).2 (i - 8)
      · rfl
      · rw [h5 e] at q; exact absurd q (by decide)
  · refine ⟨fun i _ _ => b_0 i, V8_nI (v := 255) (by omega), fun i hi q => ?_, fun i hi q => ?_⟩
    · have q' : bt 0 i = true := q
      rw [b_0] at q'; exact absurd q' (by decide)
    · show bt 255 i = true
      rw [b_255]
      rcases Nat.lt_or_ge i 8 with z | z
      · exact decide_eq_true z
      · have := comes_V8 (fi := fi) (un := un) hh on (s_X0_comesOf n hd fi un asd on 255) (V8_or ha hm) i z hi
        have q' : bt (s_X0_comesOf n hd fi un (asd ||| may) on (s_X0_comesOf n hd fi un asd on 255)) i = true := q
        rw [this] at q'; exact absurd q' (by decide)
theorem KR_M (a : Int32) (w : Int32 × Int32) : (match w with | (less, more) => if s_X3_has less a = 0 then if s_X3_has more a = 0 then (0 : Int32) else -9 else 1) = KR a w := by
  obtain ⟨l, m⟩ := w
  unfold KR
  dsimp only
  by_cases c1 : s_X2_bitOf l a = 1
  · rw [if_pos c1, if_neg (fun q => (has_0 _ _).mp q c1)]
  · rw [if_neg c1, if_pos ((has_0 _ _).mpr c1)]
    by_cases c2 : s_X2_bitOf m a = 0
    · rw [if_pos c2, if_pos ((has_0 _ _).mpr (fun q => by rw [c2] at q; exact absurd q (by decide)))]
    · rw [if_neg c2, if_neg (fun q => (has_0 _ _).mp q ((bo_n0 _ _).mp c2))]
theorem kn_fun (may on asd a : Int32) : f_X2_known_18 n may hd fi un on asd a = fun _ c => if KF n hd fi un may on asd c = c then (.inl (KR a c) : Int32 ⊕ (Int32 × Int32)) else .inr (KF n hd fi un may on asd c) := by
  funext k c
  obtain ⟨l, m⟩ := c
  unfold f_X2_known_18 KF KR
  dsimp only
  by_cases c1 : s_X0_comesOf n hd fi un asd on m = l
  · rw [if_pos c1]
    by_cases c2 : s_X0_comesOf n hd fi un (asd ||| may) on (s_X0_comesOf n hd fi un asd on m) = m
    · have e : (s_X0_comesOf n hd fi un asd on m, s_X0_comesOf n hd fi un (asd ||| may) on (s_X0_comesOf n hd fi un asd on m)) = (l, m) := by rw [c2, c1]
      rw [if_pos c2, if_pos e, c2, c1]
      split
      · rfl
      · split <;> rfl
    · rw [if_neg c2, if_neg (fun q => c2 (congrArg Prod.snd q))]
  · rw [if_neg c1, if_neg (fun q => c1 (congrArg Prod.fst q))]
end KN
section KS
variable {n len : Nat} {on may asd kept : Int32} {hd fi un hdm fim unm by_ tx io ia kp ko ka : Nat → Int32}
theorem q_known (hR : Rel n len on may asd kept hd fi un hdm fim unm by_ tx io ia kp ko ka) (a : Int32) : s_X2_known n may hd fi un on asd a = s_X3_known n hdm fim unm may on asd a := by
  unfold s_X2_known s_X3_known
  by_cases c : s_X2_isSentence a = 0
  · rw [if_pos c, if_pos ((isSent_eq a).mp c)]
  · rw [if_neg c, if_neg (fun q => c ((isSent_eq a).mpr q))]
    have hfix := KF_fix (fi := fi) (un := un) (on := on) hR.hok hR.vm hR.va
    have e20 : itr (f_X3_known_23 n hdm fim unm may on asd) (0, 255) 20 = itr (fun _ => KF n hd fi un may on asd) (0, 255) 16 := by
      rw [itr_congr (g := fun _ => KF n hd fi un may on asd) 20 (fun k hk p => ?_)]
      · exact itr_fix hfix 4
      · obtain ⟨l, m⟩ := p
        unfold f_X3_known_23 KF
        dsimp only
        rw [grows_comes hR.cg, grows_comes hR.cg]
    have e17 : itr (fun _ => KF n hd fi un may on asd) (0, 255) 17 = itr (fun _ => KF n hd fi un may on asd) (0, 255) 16 := itr_fix hfix 1
    rw [e20, kn_fun]
    have hb := itE_brk (KF n hd fi un may on asd) (KR a) (0, 255) 17
    rw [e17] at hb
    generalize itr (fun _ => KF n hd fi un may on asd) (0, 255) 16 = w at hb ⊢
    refine Eq.trans ?_ (KR_M a w).symm
    rcases hb with h | ⟨h, -⟩ <;> rw [h] <;> rfl
end KS
