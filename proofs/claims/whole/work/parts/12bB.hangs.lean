/-! ===== what hangs on itself ===== -/
def bs (n : Nat) (hd fi un : Nat → Int32) (on : Int32) (a : Nat) (p : Bool) (c : Nat) : Prop := ∃ k, k < n ∧ s_X2_bitOf on (nI k) = 1 ∧ hd k = nI a ∧ bt (if p = true then un k else fi k) c = true
def Cl (B : Nat → Bool → Nat → Prop) (a c : Nat) (p : Bool) : Prop := ∀ X : Nat → Bool → Prop, (∀ c p, B a p c → X c p) → (∀ b x c p, X b x → B b p c → X c (x ^^ p)) → X c p
theorem Cl_base {B : Nat → Bool → Nat → Prop} {a c : Nat} {p : Bool} (h : B a p c) : Cl B a c p := fun X h1 _ => h1 c p h
theorem Cl_step {B : Nat → Bool → Nat → Prop} {a b c : Nat} {x p : Bool} (h : Cl B a b x) (h2 : B b p c) : Cl B a c (x ^^ p) := fun X h1 h3 => h3 b x c p (h X h1 h3) h2
theorem Cl_trans {B : Nat → Bool → Nat → Prop} {a b c : Nat} {x p : Bool} (h : Cl B a b x) (h2 : Cl B b c p) : Cl B a c (x ^^ p) := h2 (fun c p => Cl B a c (x ^^ p)) (fun c p q => Cl_step h q) (fun b' y c p q1 q2 => by
  have := Cl_step q1 q2
  rw [Bool.xor_assoc] at this
  exact this)
def Dn (B : Nat → Bool → Nat → Prop) : Nat → Nat → Nat → Bool → Prop
  | 0, a, c, p => B a p c
  | t + 1, a, c, p => Dn B t a c p ∨ ∃ b x p', B a x b ∧ Dn B t b c p' ∧ p = (x ^^ p')
theorem Dn_up {B : Nat → Bool → Nat → Prop} {t a c : Nat} {p : Bool} (h : Dn B t a c p) : Dn B (t + 1) a c p := Or.inl h
theorem Dn_app {B : Nat → Bool → Nat → Prop} : ∀ {t a b c : Nat} {x p : Bool}, Dn B t a b x → B b p c → Dn B (t + 1) a c (x ^^ p)
  | 0, a, b, c, x, p, h, h2 => Or.inr ⟨b, x, p, h, h2, rfl⟩
  | t + 1, a, b, c, x, p, h, h2 => by
    rcases h with h | ⟨d, y, z, h3, h4, h5⟩
    · exact Or.inl (Dn_app h h2)
    · refine Or.inr ⟨d, y, z ^^ p, h3, Dn_app h4 h2, ?_⟩
      rw [h5, Bool.xor_assoc]
section HG
variable {n : Nat} {hd fi un : Nat → Int32}
theorem pu_bt (part : Nat → Int32) (heads on : Int32) : ∀ (m : Nat), ∀ i, i < 32 → (bt (itr (f_X0_partUnder__fi_6 hd part heads on) 0 m) i = true ↔ ∃ k, k < m ∧ s_X2_bitOf on (nI k) = 1 ∧ s_X2_bitOf heads (hd k) = 1 ∧ bt (part k) i = true)
  | 0, i, hi => by
    rw [itr_zero, b_0]
    exact ⟨fun h => absurd h (by decide), fun ⟨k, hk, _⟩ => absurd hk (Nat.not_lt_zero k)⟩
  | m + 1, i, hi => by
    have ih := pu_bt part heads on m i hi
    rw [itr_succ]
    generalize itr (f_X0_partUnder__fi_6 hd part heads on) 0 m = w at ih ⊢
    have same : (¬ (s_X2_bitOf on (nI m) = 1 ∧ s_X2_bitOf heads (hd m) = 1)) → (bt w i = true ↔ ∃ k, k < m + 1 ∧ s_X2_bitOf on (nI k) = 1 ∧ s_X2_bitOf heads (hd k) = 1 ∧ bt (part k) i = true) := by
      intro hno
      rw [ih]
      constructor
      · rintro ⟨k, hk, h⟩; exact ⟨k, by omega, h⟩
      · rintro ⟨k, hk, h⟩
        by_cases e : k = m
        · subst e; exact absurd ⟨h.1, h.2.1⟩ hno
        · exact ⟨k, by omega, h⟩
    unfold f_X0_partUnder__fi_6
    by_cases c1 : s_X2_bitOf on (nI m) = 1
    · rw [if_pos c1]
      by_cases c2 : s_X2_bitOf heads (hd m) = 1
      · rw [if_pos c2, b_or, Bool.or_eq_true, ih]
        constructor
        · rintro (⟨k, hk, h⟩ | h)
          · exact ⟨k, by omega, h⟩
          · exact ⟨m, by omega, c1, c2, h⟩
        · rintro ⟨k, hk, h⟩
          by_cases e : k = m
          · subst e; exact Or.inr h.2.2
          · exact Or.inl ⟨k, by omega, h⟩
      · rw [if_neg c2]; exact same (fun z => c2 z.2)
    · rw [if_neg c1]; exact same (fun z => c1 z.1)
theorem iu_bt (hh : Hok n hd) (heads on : Int32) (hv : V8 heads) {i : Nat} (hi : i < 32) : bt (s_X0_ifsUnder n hd fi heads on) i = true ↔ ∃ b, b < 8 ∧ bt heads b = true ∧ bs n hd fi un on b false i := by
  have h := pu_bt (hd := hd) fi heads on n i hi
  show bt (itr (f_X0_partUnder__fi_6 hd fi heads on) 0 n) i = true ↔ _
  rw [h]
  constructor
  · rintro ⟨k, hk, h1, h2, h3⟩
    obtain ⟨u, hu, eu⟩ := hh k hk
    rw [eu, bo_1 _ (by omega)] at h2
    have hu8 : u < 8 := by
      rcases Nat.lt_or_ge u 8 with z | z
      · exact z
      · rw [hv u z (by omega)] at h2; exact absurd h2 (by decide)
    exact ⟨u, hu8, h2, k, hk, h1, eu, h3⟩
  · rintro ⟨b, hb, h1, k, hk, h2, h3, h4⟩
    exact ⟨k, hk, h2, by rw [h3, bo_1 _ (by omega)]; exact h1, h4⟩
theorem uu_bt (hh : Hok n hd) (heads on : Int32) (hv : V8 heads) {i : Nat} (hi : i < 32) : bt (s_X0_unlessUnder n hd un heads on) i = true ↔ ∃ b, b < 8 ∧ bt heads b = true ∧ bs n hd fi un on b true i := by
  have h := pu_bt (hd := hd) un heads on n i hi
  show bt (itr (f_X0_partUnder__fi_6 hd un heads on) 0 n) i = true ↔ _
  rw [h]
  constructor
  · rintro ⟨k, hk, h1, h2, h3⟩
    obtain ⟨u, hu, eu⟩ := hh k hk
    rw [eu, bo_1 _ (by omega)] at h2
    have hu8 : u < 8 := by
      rcases Nat.lt_or_ge u 8 with z | z
      · exact z
      · rw [hv u z (by omega)] at h2; exact absurd h2 (by decide)
    exact ⟨u, hu8, h2, k, hk, h1, eu, h3⟩
  · rintro ⟨b, hb, h1, k, hk, h2, h3, h4⟩
    exact ⟨k, hk, h2, by rw [h3, bo_1 _ (by omega)]; exact h1, h4⟩
theorem Dn_mono {B : Nat → Bool → Nat → Prop} {t a c : Nat} {p : Bool} (h : Dn B t a c p) : ∀ d : Nat, Dn B (t + d) a c p
  | 0 => h
  | d + 1 => Dn_up (Dn_mono h d)
theorem Dn_le {B : Nat → Bool → Nat → Prop} {t u a c : Nat} {p : Bool} (h : Dn B t a c p) (hu : t ≤ u) : Dn B u a c p := by
  have := Dn_mono h (u - t)
  rw [show t + (u - t) = u by omega] at this
  exact this
theorem Dn_Cl {B : Nat → Bool → Nat → Prop} : ∀ {t a c : Nat} {p : Bool}, Dn B t a c p → Cl B a c p
  | 0, a, c, p, h => Cl_base h
  | t + 1, a, c, p, h => by
    rcases h with h | ⟨d, y, z, h3, h4, h5⟩
    · exact Dn_Cl h
    · rw [h5]; exact Cl_trans (Cl_base h3) (Dn_Cl h4)
def Gs {α : Type} (B : Nat → Bool → Nat → Prop) (ok : α → Prop) (pr : α → Bool → Int32) (g : α → α) : Prop := ∀ q, ok q → ok (g q) ∧ ∀ p c, c < 32 → (bt (pr (g q) p) c = true ↔ (bt (pr q p) c = true ∨ ∃ b y x, b < 8 ∧ bt (pr q y) b = true ∧ B b x c ∧ p = (y ^^ x)))
theorem Gs_ok {α : Type} {B : Nat → Bool → Nat → Prop} {ok : α → Prop} {pr : α → Bool → Int32} {g : α → α} (hg : Gs B ok pr g) {s : α} (hs : ok s) : ∀ m : Nat, ok (itr (fun _ => g) s m)
  | 0 => hs
  | m + 1 => (hg _ (Gs_ok hg hs m)).1
theorem Gs_in {α : Type} {B : Nat → Bool → Nat → Prop} {ok : α → Prop} {pr : α → Bool → Int32} {g : α → α} (hg : Gs B ok pr g) {s : α} (hs : ok s) {p : Bool} {c : Nat} (hc : c < 32) (h : bt (pr s p) c = true) : ∀ m : Nat, bt (pr (itr (fun _ => g) s m) p) c = true
  | 0 => h
  | m + 1 => ((hg _ (Gs_ok hg hs m)).2 p c hc).mpr (Or.inl (Gs_in hg hs hc h m))
theorem Gs_snd {α : Type} {B : Nat → Bool → Nat → Prop} {ok : α → Prop} {pr : α → Bool → Int32} {g : α → α} (hg : Gs B ok pr g) {s : α} (hs : ok s) (Z : Prop) (a d : Nat) (h0 : ∀ p c, c < 32 → bt (pr s p) c = true → (Z ∧ p = false ∧ c = a) ∨ ∃ t, t < d ∧ Dn B t a c p) : ∀ (m : Nat) p c, c < 32 → bt (pr (itr (fun _ => g) s m) p) c = true → (Z ∧ p = false ∧ c = a) ∨ ∃ t, t < m + d ∧ Dn B t a c p
  | 0, p, c, hc, h => by
    rcases h0 p c hc h with z | ⟨t, ht, z⟩
    · exact Or.inl z
    · exact Or.inr ⟨t, by omega, z⟩
  | m + 1, p, c, hc, h => by
    have ih := Gs_snd hg hs Z a d h0 m
    rcases ((hg _ (Gs_ok hg hs m)).2 p c hc).mp h with z | ⟨b, y, x, hb, z, hB, e⟩
    · rcases ih p c hc z with z | ⟨t, ht, z⟩
      · exact Or.inl z
      · exact Or.inr ⟨t, by omega, z⟩
    · rcases ih y b (by omega) z with ⟨_, z1, z2⟩ | ⟨t, ht, z⟩
      · refine Or.inr ⟨0, by omega, ?_⟩
        rw [e, z1, Bool.false_xor]
        rw [z2] at hB
        exact hB
      · refine Or.inr ⟨t + 1, by omega, ?_⟩
        rw [e]
        exact Dn_app z hB
theorem Gs_cpl {α : Type} {B : Nat → Bool → Nat → Prop} (hB8 : ∀ a x c, B a x c → c < 8) {ok : α → Prop} {pr : α → Bool → Int32} {g : α → α} (hg : Gs B ok pr g) {q : α} (hq : ok q) (hfix : g q = q) {a : Nat} (hb : ∀ p c, B a p c → bt (pr q p) c = true) {c : Nat} {p : Bool} (h : Cl B a c p) : bt (pr q p) c = true := by
  refine (h (fun c p => c < 8 ∧ bt (pr q p) c = true) (fun c p z => ⟨hB8 _ _ _ z, hb p c z⟩) (fun b x c p z1 z2 => ⟨hB8 _ _ _ z2, ?_⟩)).2
  have h8 := hB8 _ _ _ z2
  have := ((hg q hq).2 (x ^^ p) c (by omega)).mpr (Or.inr ⟨b, x, p, z1.1, z1.2, z2, rfl⟩)
  rw [hfix] at this
  exact this
def pr2 (q : Int32 × Int32) (p : Bool) : Int32 := if p = true then q.2 else q.1
def pr1 (q : Int32) (p : Bool) : Int32 := if p = true then 0 else q
theorem bs_8 (hv : ∀ k, k < n → V8 (fi k) ∧ V8 (un k)) (on : Int32) : ∀ a x c, bs n hd fi un on a x c → c < 8 := by
  rintro a x c ⟨k, hk, _, _, h⟩
  rcases Nat.lt_or_ge c 8 with z | z
  · exact z
  · have hv := hv k hk
    exfalso
    by_cases h32 : c < 32
    · cases x
      · rw [if_neg (by decide)] at h; rw [hv.1 c z h32] at h; exact absurd h (by decide)
      · rw [if_pos rfl] at h; rw [hv.2 c z h32] at h; exact absurd h (by decide)
    · rw [b_big (by omega)] at h; exact absurd h (by decide)
theorem V8_iff {x : Int32} : V8 x ↔ ∀ i, i < 32 → bt x i = true → i < 8 := by
  constructor
  · intro h i hi z
    rcases Nat.lt_or_ge i 8 with q | q
    · exact q
    · rw [h i q hi] at z; exact absurd z (by decide)
  · intro h i h8 hi
    cases e : bt x i
    · rfl
    · have := h i hi e; omega
theorem Gs_tg (hh : Hok n hd) (hv : ∀ k, k < n → V8 (fi k) ∧ V8 (un k)) (on : Int32) (j : Nat) : Gs (bs n hd fi un on) (fun q : Int32 × Int32 => V8 q.1 ∧ V8 q.2) pr2 (f_X0_isTangled_10 n hd fi un on j) := by
  rintro ⟨e, o⟩ ⟨he, ho⟩
  dsimp only at he ho
  have key : ∀ p c, c < 32 → (bt (pr2 (f_X0_isTangled_10 n hd fi un on j (e, o)) p) c = true ↔ (bt (pr2 (e, o) p) c = true ∨ ∃ b y x, b < 8 ∧ bt (pr2 (e, o) y) b = true ∧ bs n hd fi un on b x c ∧ p = (y ^^ x))) := by
    intro p c hc
    cases p
    · show bt ((e ||| (s_X0_ifsUnder n hd fi e on)) ||| (s_X0_unlessUnder n hd un o on)) c = true ↔ (bt e c = true ∨ _)
      rw [b_or, b_or, Bool.or_eq_true, Bool.or_eq_true, iu_bt (un := un) hh e on he hc, uu_bt (fi := fi) hh o on ho hc]
      constructor
      · rintro ((h | ⟨b, hb, h1, h2⟩) | ⟨b, hb, h1, h2⟩)
        · exact Or.inl h
        · exact Or.inr ⟨b, false, false, hb, h1, h2, rfl⟩
        · exact Or.inr ⟨b, true, true, hb, h1, h2, rfl⟩
      · rintro (h | ⟨b, y, x, hb, h1, h2, h3⟩)
        · exact Or.inl (Or.inl h)
        · cases y <;> cases x
          · exact Or.inl (Or.inr ⟨b, hb, h1, h2⟩)
          · exact absurd h3 (by decide)
          · exact absurd h3 (by decide)
          · exact Or.inr ⟨b, hb, h1, h2⟩
    · show bt (o ||| ((s_X0_ifsUnder n hd fi o on) ||| (s_X0_unlessUnder n hd un e on))) c = true ↔ (bt o c = true ∨ _)
      rw [b_or, b_or, Bool.or_eq_true, Bool.or_eq_true, iu_bt (un := un) hh o on ho hc, uu_bt (fi := fi) hh e on he hc]
      constructor
      · rintro (h | ⟨b, hb, h1, h2⟩ | ⟨b, hb, h1, h2⟩)
        · exact Or.inl h
        · exact Or.inr ⟨b, true, false, hb, h1, h2, rfl⟩
        · exact Or.inr ⟨b, false, true, hb, h1, h2, rfl⟩
      · rintro (h | ⟨b, y, x, hb, h1, h2, h3⟩)
        · exact Or.inl h
        · cases y <;> cases x
          · exact absurd h3 (by decide)
          · exact Or.inr (Or.inr ⟨b, hb, h1, h2⟩)
          · exact Or.inr (Or.inl ⟨b, hb, h1, h2⟩)
          · exact absurd h3 (by decide)
  refine ⟨⟨?_, ?_⟩, key⟩
  · refine V8_iff.mpr (fun i hi z => ?_)
    rcases (key false i hi).mp z with z | ⟨b, y, x, _, _, z, _⟩
    · exact V8_iff.mp he i hi z
    · exact bs_8 hv on _ _ _ z
  · refine V8_iff.mpr (fun i hi z => ?_)
    rcases (key true i hi).mp z with z | ⟨b, y, x, _, _, z, _⟩
    · exact V8_iff.mp ho i hi z
    · exact bs_8 hv on _ _ _ z
theorem Gs_hb (hh : Hok n hd) (hv : ∀ k, k < n → V8 (fi k)) (on : Int32) (j : Nat) : Gs (bs n hd fi (fun _ => 0) on) V8 pr1 (f_X0_hangsByIf_12 n hd fi on j) := by
  intro e he
  have nob : ∀ b c, ¬ bs n hd fi (fun _ => 0) on b true c := by
    rintro b c ⟨k, _, _, _, h⟩
    rw [if_pos rfl, b_0] at h
    exact absurd h (by decide)
  have key : ∀ p c, c < 32 → (bt (pr1 (f_X0_hangsByIf_12 n hd fi on j e) p) c = true ↔ (bt (pr1 e p) c = true ∨ ∃ b y x, b < 8 ∧ bt (pr1 e y) b = true ∧ bs n hd fi (fun _ => 0) on b x c ∧ p = (y ^^ x))) := by
    intro p c hc
    cases p
    · show bt (e ||| (s_X0_ifsUnder n hd fi e on)) c = true ↔ (bt e c = true ∨ _)
      rw [b_or, Bool.or_eq_true, iu_bt (un := fun _ => 0) hh e on he hc]
      constructor
      · rintro (h | ⟨b, hb, h1, h2⟩)
        · exact Or.inl h
        · exact Or.inr ⟨b, false, false, hb, h1, h2, rfl⟩
      · rintro (h | ⟨b, y, x, hb, h1, h2, h3⟩)
        · exact Or.inl h
        · cases y <;> cases x
          · exact Or.inr ⟨b, hb, h1, h2⟩
          · exact absurd h3 (by decide)
          · exact absurd h3 (by decide)
          · exact absurd h2 (nob _ _)
    · show bt 0 c = true ↔ (bt 0 c = true ∨ _)
      rw [b_0]
      constructor
      · intro h; exact absurd h (by decide)
      · rintro (h | ⟨b, y, x, hb, h1, h2, h3⟩)
        · exact h
        · cases y <;> cases x
          · exact absurd h3 (by decide)
          · exact absurd h2 (nob _ _)
          · rw [pr1, if_pos rfl, b_0] at h1; exact absurd h1 (by decide)
          · exact absurd h3 (by decide)
  refine ⟨?_, key⟩
  refine V8_iff.mpr (fun i hi z => ?_)
  rcases (key false i hi).mp z with z | ⟨b, y, x, _, _, z, _⟩
  · exact V8_iff.mp he i hi z
  · exact bs_8 (un := fun _ => 0) (fun k hk => ⟨hv k hk, V8_nI (v := 0) (by omega)⟩) on _ _ _ z
theorem V8_one {a : Nat} (ha : a < 8) : V8 (1 <<< (nI a &&& 31)) := V8_iff.mpr (fun i hi z => by
  rw [b_one a (by omega) hi] at z
  have := of_decide_eq_true z
  omega)
theorem tg_iff (hh : Hok n hd) (hv : ∀ k, k < n → V8 (fi k) ∧ V8 (un k)) (on : Int32) {a : Nat} (ha : a < 8) : (¬ s_X0_isTangled n hd fi un (nI a) on = 0 ↔ Cl (bs n hd fi un on) a a true) ∧ (Cl (bs n hd fi un on) a a true → Dn (bs n hd fi un on) 16 a a true) := by
  have hg := Gs_tg (fi := fi) (un := un) hh hv on 0
  have hs : V8 ((1 : Int32) <<< (nI a &&& 31)) ∧ V8 0 := ⟨V8_one ha, V8_nI (v := 0) (by omega)⟩
  have e : itr (f_X0_isTangled_10 n hd fi un on) ((1 <<< (nI a &&& 31)), 0) 16 = itr (fun _ => f_X0_isTangled_10 n hd fi un on 0) ((1 <<< (nI a &&& 31)), 0) 16 := itr_congr 16 (fun k _ q => rfl)
  have hfx := fixN 16 (f_X0_isTangled_10 n hd fi un on 0) (fun q i => if i < 8 then bt q.1 i else bt q.2 (i - 8)) (fun q => V8 q.1 ∧ V8 q.2) (fun x y hx hy h => by
    have h1 : x.1 = y.1 := V8_ext hx.1 hy.1 (fun i hi => by
      have := h i (by omega)
      try dsimp only at this
      rw [if_pos hi, if_pos hi] at this; exact this)
    have h2 : x.2 = y.2 := V8_ext hx.2 hy.2 (fun i hi => by
      have := h (i + 8) (by omega)
      try dsimp only at this
      rw [if_neg (by omega), if_neg (by omega), show i + 8 - 8 = i by omega] at this; exact this)
    exact Prod.ext h1 h2) (fun q hq => (hg q hq).1) (fun q hq i hi h => by
    try dsimp only at h ⊢
    by_cases h8 : i < 8
    · rw [if_pos h8] at h ⊢
      exact ((hg q hq).2 false i (by omega)).mpr (Or.inl h)
    · rw [if_neg h8] at h ⊢
      exact ((hg q hq).2 true (i - 8) (by omega)).mpr (Or.inl h)) ((1 <<< (nI a &&& 31)), 0) hs
  have hin := Gs_in (s := ((1 <<< (nI a &&& 31)), 0)) hg hs (p := false) (c := a) (by omega) (show bt ((1 : Int32) <<< (nI a &&& 31)) a = true by rw [b_one a (by omega) (by omega)]; exact decide_eq_true rfl) 16
  have hsn := Gs_snd (s := ((1 <<< (nI a &&& 31)), 0)) hg hs True a 0 (fun p c hc z => by
    cases p
    · left
      have z : bt ((1 : Int32) <<< (nI a &&& 31)) c = true := z
      rw [b_one a (by omega) hc] at z
      exact ⟨trivial, rfl, of_decide_eq_true z⟩
    · have z : bt 0 c = true := z
      rw [b_0] at z
      exact absurd z (by decide)) 16 true a (by omega)
  have hok := Gs_ok (s := ((1 <<< (nI a &&& 31)), 0)) hg hs 16
  unfold s_X0_isTangled
  rw [e]
  generalize itr (fun _ => f_X0_isTangled_10 n hd fi un on 0) ((1 <<< (nI a &&& 31)), 0) 16 = q at hfx hin hsn hok ⊢
  obtain ⟨ev, od⟩ := q
  have hb : ∀ p c, bs n hd fi un on a p c → bt (pr2 (ev, od) p) c = true := by
    intro p c h
    have h8 := bs_8 hv on _ _ _ h
    have := ((hg _ hok).2 p c (by omega)).mpr (Or.inr ⟨a, false, p, ha, hin, h, by rw [Bool.false_xor]⟩)
    rw [hfx] at this
    exact this
  have cpl : Cl (bs n hd fi un on) a a true → bt od a = true := fun h => Gs_cpl (pr := pr2) (bs_8 hv on) hg hok hfx hb h
  have snd : bt od a = true → Dn (bs n hd fi un on) 16 a a true := by
    intro h
    rcases hsn h with ⟨_, z, _⟩ | ⟨t, ht, z⟩
    · exact absurd z (by decide)
    · exact Dn_le z (by omega)
  refine ⟨?_, fun h => snd (cpl h)⟩
  show ¬ (if s_X2_bitOf od (nI a) = 1 then (1 : Int32) else 0) = 0 ↔ _
  have hbo := bo_1 od (i := a) (by omega)
  by_cases c : s_X2_bitOf od (nI a) = 1
  · rw [if_pos c]
    exact ⟨fun _ => Dn_Cl (snd (hbo.mp c)), fun _ => by decide⟩
  · rw [if_neg c]
    exact ⟨fun h => absurd rfl h, fun h => absurd (hbo.mpr (cpl h)) c⟩
theorem hb_iff (hh : Hok n hd) (hv : ∀ k, k < n → V8 (fi k)) (on : Int32) {a : Nat} (ha : a < 8) : (¬ s_X0_hangsByIf n hd fi (nI a) on = 0 ↔ Cl (bs n hd fi (fun _ => 0) on) a a false) ∧ (Cl (bs n hd fi (fun _ => 0) on) a a false → Dn (bs n hd fi (fun _ => 0) on) 16 a a false) := by
  have hg := Gs_hb (fi := fi) hh hv on 0
  have hv2 : ∀ k, k < n → V8 (fi k) ∧ V8 ((fun _ => 0 : Nat → Int32) k) := fun k hk => ⟨hv k hk, V8_nI (v := 0) (by omega)⟩
  have hst : ∀ c, c < 32 → (bt (s_X0_ifsUnder n hd fi (1 <<< (nI a &&& 31)) on) c = true ↔ bs n hd fi (fun _ => 0) on a false c) := by
    intro c hc
    rw [iu_bt (un := fun _ => 0) hh _ on (V8_one ha) hc]
    constructor
    · rintro ⟨b, hb, h1, h2⟩
      rw [b_one a (by omega) (by omega)] at h1
      rw [of_decide_eq_true h1] at h2
      exact h2
    · intro h
      exact ⟨a, ha, by rw [b_one a (by omega) (by omega)]; exact decide_eq_true rfl, h⟩
  have hs : V8 (s_X0_ifsUnder n hd fi (1 <<< (nI a &&& 31)) on) := V8_iff.mpr (fun i hi z => bs_8 hv2 on _ _ _ ((hst i hi).mp z))
  have e : itr (f_X0_hangsByIf_12 n hd fi on) (s_X0_ifsUnder n hd fi (1 <<< (nI a &&& 31)) on) 8 = itr (fun _ => f_X0_hangsByIf_12 n hd fi on 0) (s_X0_ifsUnder n hd fi (1 <<< (nI a &&& 31)) on) 8 := itr_congr 8 (fun k _ q => rfl)
  have hfx := fixN 8 (f_X0_hangsByIf_12 n hd fi on 0) bt V8 (fun x y hx hy h => V8_ext hx hy h) (fun q hq => (hg q hq).1) (fun q hq i hi h => ((hg q hq).2 false i (by omega)).mpr (Or.inl h)) (s_X0_ifsUnder n hd fi (1 <<< (nI a &&& 31)) on) hs
  have hin := fun c hc z => Gs_in hg hs (p := false) (c := c) hc ((hst c hc).mpr z) 8
  have hsn := Gs_snd hg hs False a 1 (fun p c hc z => by
    cases p
    · exact Or.inr ⟨0, by omega, (hst c hc).mp z⟩
    · have z : bt 0 c = true := z
      rw [b_0] at z
      exact absurd z (by decide)) 8 false a (by omega)
  have hok := Gs_ok hg hs 8
  unfold s_X0_hangsByIf
  rw [e]
  generalize itr (fun _ => f_X0_hangsByIf_12 n hd fi on 0) (s_X0_ifsUnder n hd fi (1 <<< (nI a &&& 31)) on) 8 = q at hfx hin hsn hok ⊢
  have hb : ∀ p c, bs n hd fi (fun _ => 0) on a p c → bt (pr1 q p) c = true := by
    intro p c h
    have h8 := bs_8 hv2 on _ _ _ h
    cases p
    · exact hin c (by omega) h
    · obtain ⟨k, _, _, _, h⟩ := h
      rw [if_pos rfl, b_0] at h
      exact absurd h (by decide)
  have cpl : Cl (bs n hd fi (fun _ => 0) on) a a false → bt q a = true := fun h => Gs_cpl (pr := pr1) (bs_8 hv2 on) hg hok hfx hb h
  have snd : bt q a = true → Dn (bs n hd fi (fun _ => 0) on) 16 a a false := by
    intro h
    rcases hsn h with ⟨z, _⟩ | ⟨t, ht, z⟩
    · exact z.elim
    · exact Dn_le z (by omega)
  refine ⟨?_, fun h => snd (cpl h)⟩
  show ¬ (if s_X2_bitOf q (nI a) = 1 then (1 : Int32) else 0) = 0 ↔ _
  have hbo := bo_1 q (i := a) (by omega)
  by_cases c : s_X2_bitOf q (nI a) = 1
  · rw [if_pos c]
    exact ⟨fun _ => Dn_Cl (snd (hbo.mp c)), fun _ => by decide⟩
  · rw [if_neg c]
    exact ⟨fun h => absurd rfl h, fun h => absurd (hbo.mpr (cpl h)) c⟩
end HG
