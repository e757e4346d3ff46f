def swH (h : Nat → Nat) : Nat → Nat := fun k => match k with
  | 3 => h 7 | 4 => h 8 | 5 => h 9 | 6 => h 10 | 7 => h 3 | 8 => h 4 | 9 => h 5 | 10 => h 6 | k => h k
def swC (c : Nat → ClassId) : Nat → ClassId := fun k => match k with
  | 4 => c 8 | 5 => c 9 | 6 => c 10 | 8 => c 4 | 9 => c 5 | 10 => c 6 | k => c k
theorem rules_split {h : Nat → Nat} {by_ hd2 fi2 un2 : Nat → Int32} {len rb rdr ln1 n1 : Nat} {on asd kept r1 pl1 tk1 tp1 may1 on1 asd1 kept1 : Int32} {hd1 fi1 un1 : Nat → Int32} (h1 : (r1, rb, rdr, ln1, pl1, tk1, tp1, n1, may1, hd1, fi1, un1, on1, asd1, kept1) = s_X2_rules h by_ len hd2 fi2 un2 on asd kept) : (rb = h 3 ∧ rdr = h 7 ∧ (s_X1_readInto by_ len hd2 fi2 un2).1 = -9) ∨ (rb = h 7 ∧ rdr = h 3 ∧ ¬ (s_X1_readInto by_ len hd2 fi2 un2).1 = -9) := by
  unfold s_X2_rules at h1
  generalize s_X1_readInto by_ len hd2 fi2 un2 = w at h1 ⊢
  obtain ⟨w1, w2, w3, w4, w5, w6, w7, w8, w9⟩ := w
  dsimp only at h1 ⊢
  by_cases c : w1 = -9
  · rw [if_pos c] at h1
    exact Or.inl ⟨congrArg (fun x => x.2.1) h1, congrArg (fun x => x.2.2.1) h1, c⟩
  · rw [if_neg c] at h1
    exact Or.inr ⟨congrArg (fun x => x.2.1) h1, congrArg (fun x => x.2.2.1) h1, c⟩
theorem inc4 (j : Nat) : nI (4 * j) + Int32.ofInt 4 = nI (4 * (j + 1)) := nI_add (4 * j) 4
theorem cmp_self (x : Int64) : lg_cmp x x = 0 := by simp [lg_cmp]
theorem law_exit {L j : Nat} (hL : L ≤ 2048) (h : j = L / 4) : (Int32.ofNat L - 4) < nI (4 * j) := by
  rw [Int32.lt_iff_toInt_lt]
  have e1 : (Int32.ofNat L - 4).toInt = (L : Int) - 4 := pk_sub_toInt (a := L) (b := 4) (by omega) (by omega)
  rw [e1, nI_toInt (by omega)]
  omega
theorem law_go {L j : Nat} (hL : L ≤ 2048) (h : j < L / 4) : ¬ (Int32.ofNat L - 4) < nI (4 * j) := by
  rw [Int32.lt_iff_toInt_lt]
  have e1 : (Int32.ofNat L - 4).toInt = (L : Int) - 4 := pk_sub_toInt (a := L) (b := 4) (by omega) (by omega)
  rw [e1, nI_toInt (by omega)]
  omega
section LK
variable {p : Program} {l : Launch} {e : Env} {R : Room} {s : State} {m : MethodId} {args : Array Value} {below : List Frame} {meth : Method} {c : Code} {H : Heap} {locs : List Loc} {cells slots : Nat} {Q : State → Prop}
variable {pc : Nat} {ls : Array Slot} {rest st0 : List Value} {a : Array Value} {A A0 : Nat → Prop} {H0 : Heap} {D : va_G} {cc : ByteArray}
theorem wa_sld (hexec : p.tables.exec = Jvm.exec) (hb : c.code = cc) {b L : Nat} {xs : Nat → Int32} (hX : va_X b L xs s H0) (hbl : b < H0.size) (hbA : ¬ A b) (hS : va_S A H0 H locs) {i : Int32} (j : Nat) (hi : i = nI j) (hj : j < L) (hL : L < 2 ^ 31) (hdg : decode cc pc = .ok (.iaload, 1))
    (kk : W p l e R s m args below meth c H locs cells slots Q (F0 m (pc + 1) ls (.int (xs j) :: rest))) : W p l e R s m args below meth c H locs cells slots Q (F0 m pc ls (.int i :: .ref b :: rest)) := by
  subst hi
  refine va_sld hexec hb hX hbl hbA hS (vp_in_nI hj hL) hdg ?_
  rw [nI_clamp (Nat.lt_trans hj hL)]
  exact kk
theorem ro_l {v : Int64} (hr : va_Run p l e R s m args below meth c H locs cells slots 0 0 (F0 m pc ls st0) rest (va_Ql (fun r (_ : Unit) => r = v) (fun _ _ => True) (fun q => H.size ≤ q) a) (fun q => H.size ≤ q)) (hS : va_S A0 H0 H locs) (hA : ∀ q, H0.size ≤ q → A0 q)
    (kk : ∀ (H1 : Heap) (locs1 : List Loc), (∀ ws : va_W, va_P D vwCl ws H → va_P D vwCl ws H1) → va_S A0 H0 H1 locs1 → W p l e R s m args below meth c H1 locs1 cells slots Q (F0 m (pc + 3) ls (.long v :: rest))) : W p l e R s m args below meth c H locs cells slots Q (F0 m pc ls st0) :=
  va_calll hr hS (fun q h1 h2 => absurd h1 (Nat.not_lt.mpr h2)) (fun q h => hA q (Nat.le_trans hS.1 h)) (fun r u t H1 locs1 ht hvm hp hb hz hk hS1 => by
    subst hp
    exact kk H1 locs1 (fun ws hP => ro_keep hk hP) hS1)
end LK
