theorem s_in_iff (v low high : Int64) : (¬ s_X3_in v low high = 0) ↔ (low ≤ v ∧ v ≤ high) := by
  unfold s_X3_in
  have h1 : (lg_cmp v low < 0) ↔ ¬ low ≤ v := by
    rw [← lg_cmp_ge]; exact Int32.not_le.symm
  have h2 : (0 < lg_cmp v high) ↔ ¬ v ≤ high := by
    rw [← lg_cmp_le]; exact Int32.not_le.symm
  by_cases q1 : low ≤ v
  · rw [if_neg (fun h => (h1.mp h) q1)]
    by_cases q2 : v ≤ high
    · rw [if_neg (fun h => (h2.mp h) q2)]
      exact ⟨fun _ => ⟨q1, q2⟩, fun _ => by decide⟩
    · rw [if_pos (h2.mpr q2)]
      exact ⟨fun h => absurd rfl h, fun h => absurd h.2 q2⟩
  · rw [if_pos (h1.mpr q1)]
    exact ⟨fun h => absurd rfl h, fun h => absurd h.1 q1⟩
theorem zn_in (v low high : Int64) : narrow .boolean (.int (s_X3_in v low high)) = .int (s_X3_in v low high) := by
  unfold s_X3_in
  split
  · decide +kernel
  · split <;> decide +kernel
theorem vp_inM {k : Int32} {n : Nat} {hi : Int64} (hh : hi.toInt = (n : Int) - 1) (h : ¬ s_X3_in k.toInt64 0 hi = 0) : vp_in k n := by
  rw [s_in_iff, Int64.le_iff_toInt_le, Int64.le_iff_toInt_le, Int32.toInt_toInt64, hh] at h
  rw [vp_in_iff]
  have : (0 : Int64).toInt = 0 := rfl
  omega

def s_X3_isRule (n : Nat) (k : Int32) : Int32 := (s_X3_in ((k : Int32).toInt64) 0 ((((nI n) - 1) : Int32).toInt64))
set_option maxHeartbeats 4000000 in
set_option maxRecDepth 100000 in
theorem c_X3_isRule (l : Launch) (D : va_G) (h : Nat → Nat) (cA : Nat → ClassId) (n : Nat) (hd : Nat → Int32) (fi : Nat → Int32) (un : Nat → Int32) (on : Int32) (may : Int32) (asd : Int32) (tx : Nat → Int32) (td : Int32) (kp : Nat → Int32) (ko : Nat → Int32) (ka : Nat → Int32) (tr : Int64) (pat : Int32) (pfr : Int32) (rhd : Nat → Int32) (rif : Nat → Int32) (rul : Nat → Int32) (prr : Int32) (prm : Int32) (rd : Nat → Int32) (bb : Nat → Int32) (nw : Nat → Int32) (ot : Nat → Int32) (ev : Nat → Int32) (od : Nat → Int32) (k : Int32) (hn : n ≤ 10) (sz : Nat) : Met l yX3_isRule wsX3_isRule ({ frames := 1, cells := 0, slots := 0, locals := 25 }) (va_Pc [.ref (h 0), .int k] (cPre D (tM h cA) (wM h cA (nI n) hd fi un on may asd tx td kp ko ka tr pat pfr rhd rif rul prr prm rd bb nw ot ev od) sz)) (va_Qi (fun r (_ : Unit) => r = s_X3_isRule n k) (fun _ _ => True) (fun q => sz ≤ q)) 0 0 (fun q => sz ≤ q) := by
  refine Met.ofW (cc := cX3_isRule) (maxL := 2) (ret := (some .boolean)) (by decide) rfl ?_
  intro p e s m args below meth c s₁ B hml hv
  obtain ⟨rfl, hsz, hP, hK, hD, hN⟩ := hv
  have hx := B.exec
  have hb := B.bytes
  have hr := B.returns
  have hts := atoms_spec (ws := wsX3_isRule) B.pre
  have hown : s.vm.findClass RX3 = some m.cls := findClass_of_methodNamed B.named
  have hlocks := B.notSynchronized
  have hinX3 : ∀ w ∈ wsX30, w ∈ wsX3_isRule := fun w h => List.mem_cons_of_mem _ (List.mem_append_right _ h)
  subst hsz
  obtain ⟨A, hAe⟩ : ∃ A : Nat → Prop, A = (fun q : Nat => s.heap.size ≤ q) := ⟨_, rfl⟩
  have hA : ∀ q : Nat, s.heap.size ≤ q → A q := fun q h => by rw [hAe]; exact h
  have hS : va_S A s.heap s.heap [] := va_S.rf
  subst hAe
  have hl := lv_entry ([.ref (h 0), .int k]) (n := 2) (Nat.le_of_ble_eq_true rfl)
  rw [lg_entry_eq]
  generalize (lg_sl ([.ref (h 0), .int k]) ++ List.replicate (2 - (lg_sl ([.ref (h 0), .int k])).length) Slot.unset).toArray = ls at hl ⊢
  replace hl : lv_has ls 2 [(0, .ref (h 0)), (1, .int k)] := hl
  have hKe := hK.sub (tys' := []) [] rfl
  refine lv_iload_n hx hb dX3_isRule_0 rfl (lv_at hl 1 rfl) ?_
  refine lv_i2l hx hb dX3_isRule_1 rfl ?_
  refine lv_lconst (v := 0) hx hb dX3_isRule_2 (by decide) ?_
  refine lv_aload_n hx hb dX3_isRule_3 rfl (lv_at hl 0 rfl) ?_
  refine va_get (D := D) (ci := 3) (v := .int (nI n)) (C := RX3) (T := TX3) (N := 26) hx hb hts hinX3 hown hK hP 0 rfl rfl 0 (by decide) (hts (.fieldLink RX3 59 "HoldUnlessModel" "rules" "I") (by decide +kernel)) (fun _ h9 => h9) rfl dX3_isRule_4 ?_
  refine lv_iconst (v := 1) hx hb dX3_isRule_7 (by decide) ?_
  refine lv_isub hx hb dX3_isRule_8 ?_
  refine lv_i2l hx hb dX3_isRule_9 rfl ?_
  refine ro_i (D := D) (va_runS (As := [.long ((k : Int32).toInt64), .long 0, .long ((((nI n) - 1) : Int32).toInt64)]) (rest := []) ⟨hx, hb, hml, hown, hts⟩ (c_X3_in l D ((k : Int32).toInt64) 0 ((((nI n) - 1) : Int32).toInt64)  _) (va_cwS 3 hts gX3_isRule_X3_in rfl rfl rfl (by decide +kernel) ⟨Nat.le_of_ble_eq_true rfl, Nat.le_of_ble_eq_true rfl⟩) ⟨cPre.blind, cPre.mk vP0 hKe vD0 hN⟩ rfl rfl hl.1 rfl (lv_room (Nat.le_of_ble_eq_true rfl)) dX3_isRule_10 ⟨Nat.zero_le _, Nat.zero_le _⟩) hS hA (fun H locs hkp0 hS => ?_)
  replace hP := hkp0 _ hP
  exact ro_zret hx hb hr hS hlocks (show s_X3_isRule n k = (s_X3_in ((k : Int32).toInt64) 0 ((((nI n) - 1) : Int32).toInt64)) from by (unfold s_X3_isRule; (try dsimp only); first | done | rfl)).symm (by exact zn_in _ _ _) dX3_isRule_13

