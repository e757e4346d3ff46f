/-! ===== what the class's numbers and the reference's have in common ===== -/
def Rel (n len : Nat) (on may asd kept : Int32) (hd fi un hdm fim unm by_ tx io ia kp ko ka : Nat → Int32) : Prop :=
  (n ≤ 10 ∧ len ≤ 300 ∧ vp_in on (2 ^ n) ∧ vp_in may 256 ∧ vp_in asd 256) ∧
  (∀ k, k < n → hdm k = hd k ∧ fim k = fi k ∧ unm k = un k ∧ vp_in (hd k) 9 ∧ vp_in (fi k) 256 ∧ vp_in (un k) 256) ∧
  (∀ i, i < len → tx i = by_ i &&& 255) ∧
  (∀ i, i < 2 → ((kp i = 0 ∧ s_X2_bitOf kept (nI i) = 0) ∨ (¬ kp i = 0 ∧ ¬ s_X2_bitOf kept (nI i) = 0 ∧ io i = ko i ∧ ia i = ka i ∧ vp_in (ko i) (2 ^ n) ∧ vp_in (ka i) 256)))
section RLS
variable {n len : Nat} {on may asd kept : Int32} {hd fi un hdm fim unm by_ tx io ia kp ko ka : Nat → Int32}
theorem Rel.hn (h : Rel n len on may asd kept hd fi un hdm fim unm by_ tx io ia kp ko ka) : n ≤ 10 := h.1.1
theorem Rel.hlen (h : Rel n len on may asd kept hd fi un hdm fim unm by_ tx io ia kp ko ka) : len ≤ 300 := h.1.2.1
theorem Rel.hasd (h : Rel n len on may asd kept hd fi un hdm fim unm by_ tx io ia kp ko ka) : vp_in asd 256 := h.1.2.2.2.2
theorem Rel.hon (h : Rel n len on may asd kept hd fi un hdm fim unm by_ tx io ia kp ko ka) : vp_in on 1024 := by
  have h1 := h.1.2.2.1
  have h2 : 2 ^ n ≤ 2 ^ 10 := Nat.pow_le_pow_right (by omega) h.1.1
  rw [vp_in_iff] at h1 ⊢
  omega
theorem Rel.hhd (h : Rel n len on may asd kept hd fi un hdm fim unm by_ tx io ia kp ko ka) : ∀ k : Nat, k < n → ¬ hdm k = 8 → vp_in (hdm k) 8 := by
  intro k hk h8
  obtain ⟨e, -, -, h9, -, -⟩ := h.2.1 k hk
  rw [e] at h8 ⊢
  obtain ⟨j, hj, e2⟩ := vp_in_of h9 (by omega)
  rw [e2] at h8 ⊢
  have : j ≠ 8 := fun q => h8 (by rw [q]; rfl)
  exact vp_in_nI (by omega) (by omega)
end RLS
