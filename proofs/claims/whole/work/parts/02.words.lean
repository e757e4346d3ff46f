/-! ===== links to private members of nest mates ===== -/
def nsL : List Cond := [.methodLinkNest RX2 9 yX1_init RX2, .methodLinkNest RX2 18 yX0_init RX2, .methodLinkNest RX2 37 yX1_append RX2, .methodLinkNest RX2 41 yX1_readInto RX2, .methodLinkNest RX1 19 yX0_forgetAll RX2, .methodLinkNest RX1 47 yX2_isSentence RX2, .methodLinkNest RX1 51 yX0_hasRoom RX2, .methodLinkNest RX1 55 yX0_add RX2, .methodLinkNest RX2 87 yX0_upholds RX2, .methodLinkNest RX0 32 yX2_bitOf RX2, .methodLinkNest RX2 98 yX0_comesOf RX2, .methodLinkNest RX2 104 yX0_firstRuleBringing RX2, .methodLinkNest RX2 108 yX0_nextRound RX2, .methodLinkNest RX2 111 yX0_hangsByIf RX2, .methodLinkNest RX2 115 yX0_isTangled RX2, .methodLinkNest RX2 126 yX0_brokenBy RX2, .fieldLinkNest RX2 33 "HoldUnless$Text" "length" "I" RX2, .fieldLinkNest RX2 45 "HoldUnless$Text" "tokenPlace" "I" RX2, .fieldLinkNest RX2 48 "HoldUnless$RuleBook" "size" "I" RX2, .fieldLinkNest RX1 44 "HoldUnless$RuleBook" "may" "I" RX2, .fieldLinkNest RX2 101 "HoldUnless$RuleBook" "may" "I" RX2, .fieldLinkNest RX2 64 "HoldUnless$RuleBook" "head" "[I" RX2, .fieldLinkNest RX2 67 "HoldUnless$RuleBook" "ifs" "[I" RX2, .fieldLinkNest RX2 70 "HoldUnless$RuleBook" "unless" "[I" RX2]
def isNest : Cond → Bool
  | .methodLinkNest _ _ _ _ => true
  | .fieldLinkNest _ _ _ _ _ _ => true
  | _ => false
theorem nsL_nest : ∀ w ∈ nsL, isNest w = true := by decide +kernel
theorem nsL_tab : ∀ w ∈ nsL, w.onTables = true := by decide +kernel
theorem nsL_in : ∀ w ∈ nsL, w ∈ tables_1 := by decide +kernel
def nests (U : State) : Prop := ∀ w ∈ nsL, va_Nw w U
theorem isNest_warm {s U : State} (hW : s.WarmedH U.vm) {w : Cond} (h1 : isNest w = true) (h2 : va_Nw w s) : va_Nw w U := by
  unfold isNest at h1
  split at h1
  · exact va_Nw.warmM hW h2
  · exact va_Nw.warmF hW h2
  · cases h1
theorem nests.warm {s U : State} (hW : s.WarmedH U.vm) (h : nests s) : nests U := fun w hw => isNest_warm hW (nsL_nest w hw) (h w hw)
theorem nests.same {u U : State} (h : u.vm = U.vm) (hZ : nests u) : nests U := fun w hw => va_Nw.same (nsL_tab w hw) h (hZ w hw)
theorem nests.use {A : Array Value} {U : State} (h : nests U) (i : Nat) {w : Cond} (hw : nsL[i]? = some w) : w.before A U = true := va_Nw.use (nsL_tab w (List.mem_of_getElem? hw)) (h w (List.mem_of_getElem? hw))
theorem nests.nw {U : State} (h : nests U) (i : Nat) {w : Cond} (hw : nsL[i]? = some w) : va_Nw w U := h w (List.mem_of_getElem? hw)
/-! ===== the start of a contract ===== -/
def cPre (D : va_G) (tys : List (ClassId × FieldType)) (ws : va_W) (sz : Nat) (U : State) : Prop := U.heap.size = sz ∧ va_P D vwCl ws U.heap ∧ va_K D vwCl tys U ∧ va_D (fun _ => True) ws ∧ nests U
theorem cPre.blind {D : va_G} {tys : List (ClassId × FieldType)} {ws : va_W} {sz : Nat} {av : List Value} : FrameBlind (va_Pc av (cPre D tys ws sz)) := fun a U g mk q => by
  obtain ⟨q0, q1, qP, qK, qD, qN⟩ := q
  exact ⟨q0, q1, qP, va_K.moved (u := U) (U := U.calling g mk a) (Vm.Alike.refl U.vm) qK, qD, nests.same (u := U) (U := U.calling g mk a) rfl qN⟩
theorem cPre.mk {D : va_G} {tys : List (ClassId × FieldType)} {ws : va_W} {s : State} {H : Heap} {A : Nat → Prop} {av : List Value} (hP : va_P D vwCl ws H) (hK : va_K D vwCl tys s) (hD : va_D A ws) (hN : nests s) : ∀ U : State, U.heap = H → s.WarmedH U.vm → va_Pc av (cPre D tys ws H.size) av.toArray U := fun U hU hW => ⟨rfl, by rw [hU], by rw [hU]; exact hP, va_K.moved hW.alike hK, hD.weaken (fun _ _ _ _ => trivial), hN.warm hW⟩
theorem vP0 {D : va_G} {H : Heap} : va_P D vwCl ([] : va_W) H := fun k q h => by simp at h
theorem vD0 : va_D (fun _ => True) ([] : va_W) := ⟨fun i j p q h => by simp at h, fun k q h => by simp at h⟩
/-! ===== loops as functions ===== -/
def itr {α : Type} (f : Nat → α → α) (s : α) : Nat → α
  | 0 => s
  | k + 1 => f k (itr f s k)
theorem itr_zero {α : Type} (f : Nat → α → α) (s : α) : itr f s 0 = s := rfl
theorem itr_succ {α : Type} (f : Nat → α → α) (s : α) (k : Nat) : itr f s (k + 1) = f k (itr f s k) := rfl
theorem itr_step {α : Type} {f : Nat → α → α} {s : α} {k : Nat} {a b : α} (h : a = itr f s k) (hr : f k a = b) : b = itr f s (k + 1) := by
  rw [itr_succ, ← h]
  exact hr.symm
def onE {α β : Type} (r : β ⊕ α) (g : α → β) : β := match r with
  | .inl b => b
  | .inr a => g a
theorem onE_l {α β : Type} (b : β) (g : α → β) : onE (.inl b) g = b := rfl
theorem onE_r {α β : Type} (a : α) (g : α → β) : onE (.inr a) g = g a := rfl
def bnE {α β : Type} (r : β ⊕ α) (g : α → β ⊕ α) : β ⊕ α := match r with
  | .inl b => .inl b
  | .inr a => g a
def itE {α β : Type} (f : Nat → α → β ⊕ α) (s : α) : Nat → β ⊕ α
  | 0 => .inr s
  | k + 1 => bnE (itE f s k) (f k)
theorem itE_zero {α β : Type} (f : Nat → α → β ⊕ α) (s : α) : itE f s 0 = .inr s := rfl
theorem itE_succ {α β : Type} {f : Nat → α → β ⊕ α} {s : α} {k : Nat} {a : α} {r : β ⊕ α} (h : itE f s k = .inr a) (hr : f k a = r) : itE f s (k + 1) = r := by
  show bnE (itE f s k) (f k) = r
  rw [h]
  exact hr
theorem itE_stop {α β : Type} {f : Nat → α → β ⊕ α} {s : α} {k : Nat} {b : β} (h : itE f s k = .inl b) : ∀ n : Nat, k ≤ n → itE f s n = .inl b := by
  intro n
  induction n with
  | zero => intro hk; rw [Nat.le_zero.mp hk] at h; exact h
  | succ n ih =>
    intro hk
    rcases Nat.lt_or_ge n k with q | q
    · rw [show n + 1 = k by omega]; exact h
    · show bnE (itE f s n) (f n) = _
      rw [ih q]
      rfl
/-! ===== numbers ===== -/
theorem inc_nI (j : Nat) : nI j + Int32.ofInt 1 = nI (j + 1) := nI_1 j
theorem vp_of {i M : Int32} {n : Nat} (hM : M.toInt = n) (h0 : ¬ i < 0) (h1 : ¬ M ≤ i) : vp_in i n := by
  rw [vp_in_iff]
  rw [Int32.lt_iff_toInt_lt] at h0
  rw [Int32.le_iff_toInt_le, hM] at h1
  have : (0 : Int32).toInt = 0 := rfl
  omega
/-! ===== rows ===== -/
section RR
variable {p : Program} {l : Launch} {e : Env} {R : Room} {s : State} {m : MethodId} {args : Array Value} {below : List Frame} {meth : Method} {c : Code} {H : Heap} {locs : List Loc} {cells slots : Nat} {Q : State → Prop}
variable {pc : Nat} {ls : Array Slot} {rest st0 : List Value} {a : Array Value} {A0 A1 : Nat → Prop} {H0 : Heap} {D : va_G}
theorem ro_keep {cl : List vw_C} {ws : va_W} {H H1 : Heap} (hk : ∀ q : Nat, q < H.size → ¬ H.size ≤ q → H1[q]? = H[q]?) (hP : va_P D cl ws H) : va_P D cl ws H1 := hP.kept (fun k q hkq => hk q.1 (hP k q hkq).lt (Nat.not_le.mpr (hP k q hkq).lt))
/-- a call that reads alone, and answers v -/
theorem ro_i {v : Int32} (hr : va_Run p l e R s m args below meth c H locs cells slots 0 0 (F0 m pc ls st0) rest (va_Qi (fun r (_ : Unit) => r = v) (fun _ _ => True) (fun q => H.size ≤ q) a) (fun q => H.size ≤ q)) (hS : va_S A0 H0 H locs) (hA : ∀ q, H0.size ≤ q → A0 q)
    (kk : ∀ (H1 : Heap) (locs1 : List Loc), (∀ ws : va_W, va_P D vwCl ws H → va_P D vwCl ws H1) → va_S A0 H0 H1 locs1 → W p l e R s m args below meth c H1 locs1 cells slots Q (F0 m (pc + 3) ls (.int v :: rest))) : W p l e R s m args below meth c H locs cells slots Q (F0 m pc ls st0) :=
  va_calli hr hS (fun q h1 h2 => absurd h1 (Nat.not_lt.mpr h2)) (fun q h => hA q (Nat.le_trans hS.1 h)) (fun r u t H1 locs1 ht hvm hp hb hz hk hS1 => by
    subst hp
    exact kk H1 locs1 (fun ws hP => ro_keep hk hP) hS1)
theorem ro_iret {v w : Int32} {cc : ByteArray} (hexec : p.tables.exec = Jvm.exec) (hb : c.code = cc) (hr : meth.sig.returnType = some .int) (hS : va_S (fun q : Nat => s.heap.size ≤ q) s.heap H locs) (hlocks : meth.locks = false) (hv : v = w) (hdg : decode cc pc = .ok (.ireturn, 1)) :
    W p l e R s m args below meth c H locs cells slots (MQ below (va_Qi (fun r (_ : Unit) => r = w) (fun _ _ => True) (fun q => s.heap.size ≤ q)) args s cells slots (fun q => s.heap.size ≤ q)) (F0 m pc ls [.int v]) :=
  W.iret (v := v) hexec hb hr (fun t ht hW => ⟨⟨v, (), rfl, hv, trivial⟩, hS.F ht⟩) hS.2.2 hdg hlocks
theorem ro_zret {v w : Int32} {cc : ByteArray} (hexec : p.tables.exec = Jvm.exec) (hb : c.code = cc) (hr : meth.sig.returnType = some .boolean) (hS : va_S (fun q : Nat => s.heap.size ≤ q) s.heap H locs) (hlocks : meth.locks = false) (hv : v = w) (hn : narrow .boolean (.int v) = .int v) (hdg : decode cc pc = .ok (.ireturn, 1)) :
    W p l e R s m args below meth c H locs cells slots (MQ below (va_Qi (fun r (_ : Unit) => r = w) (fun _ _ => True) (fun q => s.heap.size ≤ q)) args s cells slots (fun q => s.heap.size ≤ q)) (F0 m pc ls [.int v]) :=
  W.zret (v := v) hexec hb hr hn (fun t ht hW => ⟨⟨v, (), rfl, hv, trivial⟩, hS.F ht⟩) hS.2.2 hdg hlocks
theorem ro_lret {v w : Int64} {cc : ByteArray} (hexec : p.tables.exec = Jvm.exec) (hb : c.code = cc) (hr : meth.sig.returnType = some .long) (hS : va_S (fun q : Nat => s.heap.size ≤ q) s.heap H locs) (hlocks : meth.locks = false) (hv : v = w) (hdg : decode cc pc = .ok (.lreturn, 1)) :
    W p l e R s m args below meth c H locs cells slots (MQ below (va_Ql (fun r (_ : Unit) => r = w) (fun _ _ => True) (fun q => s.heap.size ≤ q)) args s cells slots (fun q => s.heap.size ≤ q)) (F0 m pc ls [.long v]) :=
  W.lret (v := v) hexec hb hr (fun t ht hW => ⟨⟨v, (), rfl, hv, trivial⟩, hS.F ht⟩) hS.2.2 hdg hlocks
/-- what a writing contract says of the world behind it -/
def rwB (D : va_G) {S : Type} (Bw : S → va_W) (A : Nat → Prop) : S → State → Prop := fun u t => va_P D vwCl (Bw u) t.heap ∧ va_D A (Bw u)
theorem rw_i {S : Type} {post : Int32 → S → Prop} {Bw : S → va_W} {wc : va_W} (hr : va_Run p l e R s m args below meth c H locs cells slots 0 0 (F0 m pc ls st0) rest (va_Qi post (rwB D Bw (va_A wc H.size)) (va_A wc H.size) a) (va_A wc H.size)) (hS : va_S A0 H0 H locs) (hF : ∀ q, va_A wc H.size q → A0 q)
    (kk : ∀ (r : Int32) (u : S) (H1 : Heap) (locs1 : List Loc), post r u → va_P D vwCl (Bw u) H1 → va_D (va_A wc H.size) (Bw u) → (∀ q : Nat, q < H.size → ¬ va_A wc H.size q → H1[q]? = H[q]?) → va_S A0 H0 H1 locs1 → W p l e R s m args below meth c H1 locs1 cells slots Q (F0 m (pc + 3) ls (.int r :: rest))) : W p l e R s m args below meth c H locs cells slots Q (F0 m pc ls st0) :=
  va_calli hr hS (fun q _ h => hF q h) hF (fun r u t H1 locs1 ht hvm hp hb hz hk hS1 => kk r u H1 locs1 hp (by rw [← ht]; exact hb.1) hb.2 hk hS1)
theorem rw_v {S : Type} {post : S → Prop} {Bw : S → va_W} {wc : va_W} (hr : va_Run p l e R s m args below meth c H locs cells slots 0 0 (F0 m pc ls st0) rest (va_Qv post (rwB D Bw (va_A wc H.size)) (va_A wc H.size) a) (va_A wc H.size)) (hS : va_S A0 H0 H locs) (hF : ∀ q, va_A wc H.size q → A0 q)
    (kk : ∀ (u : S) (H1 : Heap) (locs1 : List Loc), post u → va_P D vwCl (Bw u) H1 → va_D (va_A wc H.size) (Bw u) → (∀ q : Nat, q < H.size → ¬ va_A wc H.size q → H1[q]? = H[q]?) → va_S A0 H0 H1 locs1 → W p l e R s m args below meth c H1 locs1 cells slots Q (F0 m (pc + 3) ls rest)) : W p l e R s m args below meth c H locs cells slots Q (F0 m pc ls st0) :=
  va_callv hr hS (fun q _ h => hF q h) hF (fun u t H1 locs1 ht hvm hp hb hz hk hS1 => kk u H1 locs1 hp (by rw [← ht]; exact hb.1) hb.2 hk hS1)
theorem rw_iret {S : Type} {post : Int32 → S → Prop} {Bw : S → va_W} {A : Nat → Prop} {v : Int32} {cc : ByteArray} (hexec : p.tables.exec = Jvm.exec) (hb : c.code = cc) (hr : meth.sig.returnType = some .int) (hS : va_S A s.heap H locs) (hlocks : meth.locks = false) (u : S) (hv : post v u) (hP : va_P D vwCl (Bw u) H) (hD : va_D A (Bw u)) (hdg : decode cc pc = .ok (.ireturn, 1)) :
    W p l e R s m args below meth c H locs cells slots (MQ below (va_Qi post (rwB D Bw A) A) args s cells slots A) (F0 m pc ls [.int v]) :=
  W.iret (v := v) hexec hb hr (fun t ht hW => ⟨⟨v, u, rfl, hv, by rw [ht]; exact hP, hD⟩, hS.F ht⟩) hS.2.2 hdg hlocks
theorem rw_zret {S : Type} {post : Int32 → S → Prop} {Bw : S → va_W} {A : Nat → Prop} {v : Int32} {cc : ByteArray} (hexec : p.tables.exec = Jvm.exec) (hb : c.code = cc) (hr : meth.sig.returnType = some .boolean) (hS : va_S A s.heap H locs) (hlocks : meth.locks = false) (u : S) (hv : post v u) (hP : va_P D vwCl (Bw u) H) (hD : va_D A (Bw u)) (hn : narrow .boolean (.int v) = .int v) (hdg : decode cc pc = .ok (.ireturn, 1)) :
    W p l e R s m args below meth c H locs cells slots (MQ below (va_Qi post (rwB D Bw A) A) args s cells slots A) (F0 m pc ls [.int v]) :=
  W.zret (v := v) hexec hb hr hn (fun t ht hW => ⟨⟨v, u, rfl, hv, by rw [ht]; exact hP, hD⟩, hS.F ht⟩) hS.2.2 hdg hlocks
theorem rw_vret {S : Type} {post : S → Prop} {Bw : S → va_W} {A : Nat → Prop} {cc : ByteArray} (hexec : p.tables.exec = Jvm.exec) (hb : c.code = cc) (hr : meth.sig.returnType = none) (hS : va_S A s.heap H locs) (hlocks : meth.locks = false) (u : S) (hv : post u) (hP : va_P D vwCl (Bw u) H) (hD : va_D A (Bw u)) (hdg : decode cc pc = .ok (.return_, 1)) :
    W p l e R s m args below meth c H locs cells slots (MQ below (va_Qv post (rwB D Bw A) A) args s cells slots A) (F0 m pc ls []) :=
  W.vret hexec hb hr (fun t ht hW => ⟨⟨u, rfl, hv, by rw [ht]; exact hP, hD⟩, hS.F ht⟩) hS.2.2 hdg hlocks
variable {cc : ByteArray} {cl : List vw_C} {tys : List (ClassId × FieldType)} {ws : va_W} {A : Nat → Prop} {aa : Nat}
theorem wa_ild (hexec : p.tables.exec = Jvm.exec) (hb : c.code = cc) (hK : va_K D cl tys s) (hP : va_P D cl ws H) (q0 t0 : Nat) {cA : ClassId} {n : Nat} {f : Nat → Int32} (ha : ws[q0]? = some (aa, .inl (cA, n, .inl f))) (ht : tys[t0]? = some (cA, .int)) {i : Int32} (j : Nat) (hi : i = nI j) (hj : j < n) (hn : n < 2 ^ 31) (hdg : decode cc pc = .ok (.iaload, 1))
    (kk : W p l e R s m args below meth c H locs cells slots Q (F0 m (pc + 1) ls (.int (f j) :: rest))) : W p l e R s m args below meth c H locs cells slots Q (F0 m pc ls (.int i :: .ref aa :: rest)) := by
  subst hi
  refine va_iald hexec hb hK hP q0 t0 ha ht (vp_in_nI hj hn) hdg ?_
  rw [nI_clamp (Nat.lt_trans hj hn)]
  exact kk
theorem wa_zld (hexec : p.tables.exec = Jvm.exec) (hb : c.code = cc) (hK : va_K D cl tys s) (hP : va_P D cl ws H) (q0 t0 : Nat) {cA : ClassId} {n : Nat} {f : Nat → Int32} (ha : ws[q0]? = some (aa, .inl (cA, n, .inl f))) (ht : tys[t0]? = some (cA, .boolean)) {i : Int32} (j : Nat) (hi : i = nI j) (hj : j < n) (hn : n < 2 ^ 31) (hdg : decode cc pc = .ok (.baload, 1))
    (kk : W p l e R s m args below meth c H locs cells slots Q (F0 m (pc + 1) ls (.int (f j) :: rest))) : W p l e R s m args below meth c H locs cells slots Q (F0 m pc ls (.int i :: .ref aa :: rest)) := by
  subst hi
  refine va_zald hexec hb hK hP q0 t0 ha ht (vp_in_nI hj hn) hdg ?_
  rw [nI_clamp (Nat.lt_trans hj hn)]
  exact kk
theorem wa_ist (hexec : p.tables.exec = Jvm.exec) (hb : c.code = cc) (hK : va_K D cl tys s) (hP : va_P D cl ws H) (hD : va_D A ws) (hS : va_S A H0 H locs) (q0 t0 : Nat) {cA : ClassId} {n : Nat} {f : Nat → Int32} (ha : ws[q0]? = some (aa, .inl (cA, n, .inl f))) (ht : tys[t0]? = some (cA, .int)) {i x : Int32} (j : Nat) (hi : i = nI j) (hj : j < n) (hn : n < 2 ^ 31) (hdg : decode cc pc = .ok (.iastore, 1))
    (kk : ∀ (H1 : Heap) (locs1 : List Loc), va_P D cl (ws.set q0 (aa, .inl (cA, n, .inl (upd f j x)))) H1 → va_D A (ws.set q0 (aa, .inl (cA, n, .inl (upd f j x)))) → va_S A H0 H1 locs1 → W p l e R s m args below meth c H1 locs1 cells slots Q (F0 m (pc + 1) ls rest)) : W p l e R s m args below meth c H locs cells slots Q (F0 m pc ls (.int x :: .int i :: .ref aa :: rest)) := by
  subst hi
  refine va_iast hexec hb hK hP hD hS q0 t0 ha ht (vp_in_nI hj hn) hdg ?_
  rw [nI_clamp (Nat.lt_trans hj hn)]
  exact kk
end RR
