def wLw (h : Nat → Nat) (cA : Nat → ClassId) (g : Nat → Nat) (cG : Nat → ClassId) (by_ : Nat → Int32) (ln : Int32) (pl : Int32) (tk : Int32) (tp : Int32) (sz : Int32) (may : Int32) (hd : Nat → Int32) (fi : Nat → Int32) (un : Nat → Int32) (sz2 : Int32) (may2 : Int32) (hd2 : Nat → Int32) (fi2 : Nat → Int32) (un2 : Nat → Int32) (on : Int32) (asd : Int32) (io : Nat → Int32) (ia : Nat → Int32) (kept : Int32) (tr : Int64) (rlm : Int32) (hdm : Nat → Int32) (fim : Nat → Int32) (unm : Nat → Int32) (onm : Int32) (maym : Int32) (asdm : Int32) (txm : Nat → Int32) (tdm : Int32) (kpm : Nat → Int32) (kom : Nat → Int32) (kam : Nat → Int32) (trm : Int64) (patm : Int32) (pfrm : Int32) (rhdm : Nat → Int32) (rifm : Nat → Int32) (rulm : Nat → Int32) (prrm : Int32) (prmm : Int32) (rdm : Nat → Int32) (bbm : Nat → Int32) (nwm : Nat → Int32) (otm : Nat → Int32) (evm : Nat → Int32) (odm : Nat → Int32) : va_W := [((h 0), .inr (2, [.ref (h 1), .ref (h 3), .ref (h 7), .int on, .int asd, .ref (h 11), .ref (h 12), .int kept, .long tr])), ((h 1), .inr (1, [.ref (h 2), .int ln, .int pl, .int tk, .int tp])), ((h 2), .inl ((cA 2), 300, .inl by_)), ((h 3), .inr (0, [.int sz, .int may, .ref (h 4), .ref (h 5), .ref (h 6)])), ((h 4), .inl ((cA 4), 10, .inl hd)), ((h 5), .inl ((cA 5), 10, .inl fi)), ((h 6), .inl ((cA 6), 10, .inl un)), ((h 7), .inr (0, [.int sz2, .int may2, .ref (h 8), .ref (h 9), .ref (h 10)])), ((h 8), .inl ((cA 8), 10, .inl hd2)), ((h 9), .inl ((cA 9), 10, .inl fi2)), ((h 10), .inl ((cA 10), 10, .inl un2)), ((h 11), .inl ((cA 11), 2, .inl io)), ((h 12), .inl ((cA 12), 2, .inl ia)), ((g 0), .inr (3, [.int rlm, .ref (g 1), .ref (g 2), .ref (g 3), .int onm, .int maym, .int asdm, .ref (g 4), .int tdm, .ref (g 5), .ref (g 6), .ref (g 7), .long trm, .int patm, .int pfrm, .ref (g 8), .ref (g 9), .ref (g 10), .int prrm, .int prmm, .ref (g 11), .ref (g 12), .ref (g 13), .ref (g 14), .ref (g 15), .ref (g 16)])), ((g 1), .inl ((cG 1), 10, .inl hdm)), ((g 2), .inl ((cG 2), 10, .inl fim)), ((g 3), .inl ((cG 3), 10, .inl unm)), ((g 4), .inl ((cG 4), 300, .inl txm)), ((g 5), .inl ((cG 5), 2, .inl kpm)), ((g 6), .inl ((cG 6), 2, .inl kom)), ((g 7), .inl ((cG 7), 2, .inl kam)), ((g 8), .inl ((cG 8), 10, .inl rhdm)), ((g 9), .inl ((cG 9), 10, .inl rifm)), ((g 10), .inl ((cG 10), 10, .inl rulm)), ((g 11), .inl ((cG 11), 8, .inl rdm)), ((g 12), .inl ((cG 12), 8, .inl bbm)), ((g 13), .inl ((cG 13), 8, .inl nwm)), ((g 14), .inl ((cG 14), 8, .inl otm)), ((g 15), .inl ((cG 15), 8, .inl evm)), ((g 16), .inl ((cG 16), 8, .inl odm))]
def tLw (h : Nat → Nat) (cA : Nat → ClassId) (g : Nat → Nat) (cG : Nat → ClassId) : List (ClassId × FieldType) := [((cA 2), .byte), ((cA 4), .int), ((cA 5), .int), ((cA 6), .int), ((cA 8), .int), ((cA 9), .int), ((cA 10), .int), ((cA 11), .int), ((cA 12), .int), ((cG 1), .int), ((cG 2), .int), ((cG 3), .int), ((cG 4), .int), ((cG 5), .boolean), ((cG 6), .int), ((cG 7), .int), ((cG 8), .int), ((cG 9), .int), ((cG 10), .int), ((cG 11), .int), ((cG 12), .int), ((cG 13), .int), ((cG 14), .int), ((cG 15), .int), ((cG 16), .int)]
set_option maxHeartbeats 4000000 in
set_option maxRecDepth 100000 in
theorem law_loop {p : Program} {l : Launch} {e : Env} {s : State} {m : MethodId} {below : List Frame} {meth : Method} {c : Code} {D : va_G} {b L : Nat} {xs : Nat → Int32} (hL : L ≤ 2048) (C0 : lw_At p s m meth c b L xs) :
    ∀ (z j : Nat), j + z = L / 4 → ∀ (h : Nat → Nat) (cA : Nat → ClassId) (g : Nat → Nat) (cG : Nat → ClassId) (n len n2 : Nat) (by_ : Nat → Int32) (pl : Int32) (tk : Int32) (tp : Int32) (may : Int32) (hd : Nat → Int32) (fi : Nat → Int32) (un : Nat → Int32) (may2 : Int32) (hd2 : Nat → Int32) (fi2 : Nat → Int32) (un2 : Nat → Int32) (on : Int32) (asd : Int32) (io : Nat → Int32) (ia : Nat → Int32) (kept : Int32) (tr : Int64) (hdm : Nat → Int32) (fim : Nat → Int32) (unm : Nat → Int32) (tx : Nat → Int32) (kp : Nat → Int32) (ko : Nat → Int32) (ka : Nat → Int32) (patm : Int32) (pfrm : Int32) (rhdm : Nat → Int32) (rifm : Nat → Int32) (rulm : Nat → Int32) (prrm : Int32) (prmm : Int32) (rdm : Nat → Int32) (bbm : Nat → Int32) (nwm : Nat → Int32) (otm : Nat → Int32) (evm : Nat → Int32) (odm : Nat → Int32), Rel n len on may asd kept hd fi un hdm fim unm by_ tx io ia kp ko ka → ∀ (H : Heap) (locs : List Loc), va_K D vwCl (tLw h cA g cG) s → va_P D vwCl (wLw h cA g cG by_ (nI len) pl tk tp (nI n) may hd fi un (nI n2) may2 hd2 fi2 un2 on asd io ia kept tr (nI n) hdm fim unm on may asd tx (nI len) kp ko ka tr patm pfrm rhdm rifm rulm prrm prmm rdm bbm nwm otm evm odm) H → va_D (fun q : Nat => s.heap.size ≤ q) (wLw h cA g cG by_ (nI len) pl tk tp (nI n) may hd fi un (nI n2) may2 hd2 fi2 un2 on asd io ia kept tr (nI n) hdm fim unm on may asd tx (nI len) kp ko ka tr patm pfrm rhdm rifm rulm prrm prmm rdm bbm nwm otm evm odm) → va_S (fun q : Nat => s.heap.size ≤ q) s.heap H locs → ∀ ls : Array Slot, lv_has ls 4 [(0, .ref b), (1, .ref (h 0)), (2, .ref (g 0)), (3, .int (nI (4 * j)))] → W p l e room_1 s m #[Value.ref b] below meth c H locs 30 828 (lw_Z below #[Value.ref b] s) (F0 m 18 ls []) := by
  obtain ⟨hx, hb, hr, hml, hown, hts0, hX, hbl, hlocks, hgv⟩ := C0
  have hts : ∀ w ∈ wsL_law, w.before #[Value.ref b] s = true := fun w h => hts0 w (wsL_law_in w h)
  have hN : nests s := fun w hw => va_Nw.of (nsL_tab w hw) (hts0 w (List.mem_append_right _ (nsL_in w hw)))
  obtain ⟨A, hAe⟩ : ∃ A : Nat → Prop, A = (fun q : Nat => s.heap.size ≤ q) := ⟨_, rfl⟩
  have hA : ∀ q : Nat, s.heap.size ≤ q → A q := fun q h => by rw [hAe]; exact h
  have hbA : ¬ A b := by rw [hAe]; exact Nat.not_le.mpr hbl
  rw [← hAe]
  intro z
  induction z with
  | zero =>
    intro j hj h cA g cG n len n2 by_ pl tk tp may hd fi un may2 hd2 fi2 un2 on asd io ia kept tr hdm fim unm tx kp ko ka patm pfrm rhdm rifm rulm prrm prmm rdm bbm nwm otm evm odm hR H locs hK hP hD hS ls hl
    refine lv_iload_n hx hb dL_law_18 rfl (lv_at hl 3 rfl) ?_
    refine lv_aload_n hx hb dL_law_19 rfl (lv_at hl 0 rfl) ?_
    refine va_slen hx hb hX hbl hbA hS dL_law_20 ?_
    refine lv_iconst (v := 4) hx hb dL_law_21 (by decide) ?_
    refine lv_isub hx hb dL_law_22 ?_
    refine lv_icmp_gt (tgt := 709) hx hb dL_law_23 (by decide) (fun _ => ?_) (fun hh => absurd (law_exit hL (by omega)) hh)
    refine lv_iconst (v := 1) hx hb dL_law_709 (by decide) ?_
    refine va_forget (fun q hq => by have := hS.2.2 q hq; rw [hAe] at this; exact this) ?_
    exact lw_ret hx hb hr hlocks dL_law_710
  | succ z ih =>
    intro j hj h cA g cG n len n2 by_ pl tk tp may hd fi un may2 hd2 fi2 un2 on asd io ia kept tr hdm fim unm tx kp ko ka patm pfrm rhdm rifm rulm prrm prmm rdm bbm nwm otm evm odm hR H locs hK hP hD hS ls hl
    refine lv_iload_n hx hb dL_law_18 rfl (lv_at hl 3 rfl) ?_
    refine lv_aload_n hx hb dL_law_19 rfl (lv_at hl 0 rfl) ?_
    refine va_slen hx hb hX hbl hbA hS dL_law_20 ?_
    refine lv_iconst (v := 4) hx hb dL_law_21 (by decide) ?_
    refine lv_isub hx hb dL_law_22 ?_
    refine lv_icmp_gt (tgt := 709) hx hb dL_law_23 (by decide) (fun hh => absurd hh (law_go hL (by omega))) (fun _ => ?_)
    have hj4 : 4 * j + 4 ≤ L := by omega
    have hKe := hK.sub (tys' := []) [] rfl
    refine lv_aload_n hx hb dL_law_26 rfl (lv_at hl 0 rfl) ?_
    refine lv_iload_n hx hb dL_law_27 rfl (lv_at hl 3 rfl) ?_
    refine wa_sld hx hb hX hbl hbA hS (4 * j) rfl (by omega) (by omega) dL_law_28 ?_
    refine lv_bipush (v := 31) hx hb dL_law_29 (by decide) ?_
    refine lv_iand hx hb dL_law_31 ?_
    by_cases k_32_1 : ((xs (4 * j)) &&& 31) = 0
    · refine lv_tableIn (tgt := 136) hx hb dL_law_32 (by rw [k_32_1]; decide) (by rw [k_32_1]; decide) (by rw [k_32_1]; rfl) (by decide) ?_
      refine lv_aload_n hx hb dL_law_136 rfl (lv_at hl 1 rfl) ?_
      refine lv_aload_n hx hb dL_law_137 rfl (lv_at hl 0 rfl) ?_
      refine lv_iload_n hx hb dL_law_138 rfl (lv_at hl 3 rfl) ?_
      refine lv_iconst (v := 1) hx hb dL_law_139 (by decide) ?_
      refine lv_iadd hx hb dL_law_140 ?_
      refine lv_cv (nI_add (4 * j) 1) ?_
      refine wa_sld hx hb hX hbl hbA hS (4 * j + 1) rfl (by omega) (by omega) dL_law_141 ?_
      refine lv_i2l hx hb dL_law_142 rfl ?_
      refine lv_bipush (v := 32) hx hb dL_law_143 (by decide) ?_
      refine lv_lshl hx hb dL_law_145 rfl ?_
      refine lv_aload_n hx hb dL_law_146 rfl (lv_at hl 0 rfl) ?_
      refine lv_iload_n hx hb dL_law_147 rfl (lv_at hl 3 rfl) ?_
      refine lv_iconst (v := 2) hx hb dL_law_148 (by decide) ?_
      refine lv_iadd hx hb dL_law_149 ?_
      refine lv_cv (nI_add (4 * j) 2) ?_
      refine wa_sld hx hb hX hbl hbA hS (4 * j + 2) rfl (by omega) (by omega) dL_law_150 ?_
      refine lv_i2l hx hb dL_law_151 rfl ?_
      refine lv_ldc2 (v := 4294967295) hx hb hown (hts (.constantLong RL 13 (4294967295)) (by decide +kernel)) dL_law_152 ?_
      refine lv_land hx hb dL_law_155 ?_
      refine lv_lor hx hb dL_law_156 ?_
      refine lv_aload_n hx hb dL_law_157 rfl (lv_at hl 0 rfl) ?_
      refine lv_iload_n hx hb dL_law_158 rfl (lv_at hl 3 rfl) ?_
      refine lv_iconst (v := 3) hx hb dL_law_159 (by decide) ?_
      refine lv_iadd hx hb dL_law_160 ?_
      refine lv_cv (nI_add (4 * j) 3) ?_
      refine wa_sld hx hb hX hbl hbA hS (4 * j + 3) rfl (by omega) (by omega) dL_law_161 ?_
      have hPc := hP.sub (ws' := (wX h cA by_ (nI len) pl tk tp (nI n) may hd fi un (nI n2) may2 hd2 fi2 un2 on asd io ia kept tr)) [0, 1, 2, 3, 4, 5, 6, 7, 8, 9, 10, 11, 12] rfl
      have hDc := hD.sub (ws' := (wX h cA by_ (nI len) pl tk tp (nI n) may hd fi un (nI n2) may2 hd2 fi2 un2 on asd io ia kept tr)) [0, 1, 2, 3, 4, 5, 6, 7, 8, 9, 10, 11, 12] (by decide) rfl
      have hKc := hK.sub (tys' := (tX h cA)) [0, 1, 2, 3, 4, 5, 6, 7, 8] rfl
      have hFc := va_free (wc := (wX h cA by_ (nI len) pl tk tp (nI n) may hd fi un (nI n2) may2 hd2 fi2 un2 on asd io ia kept tr)) hD hS hA [0, 1, 2, 3, 4, 5, 6, 7, 8, 9, 10, 11, 12] rfl
      refine rw_i (D := D) (wc := (wX h cA by_ (nI len) pl tk tp (nI n) may hd fi un (nI n2) may2 hd2 fi2 un2 on asd io ia kept tr)) (va_runV (As := [.long (((((xs (4 * j + 1)) : Int32).toInt64) <<< (((32 : Int32).toInt64) &&& 63)) ||| ((((xs (4 * j + 2)) : Int32).toInt64) &&& 4294967295)), .int (xs (4 * j + 3))]) (rest := []) ⟨hx, hb, hml, hown, hts⟩ (c_X2_type l D h cA n by_ (nI len) pl tk tp may hd fi un (nI n2) may2 hd2 fi2 un2 on asd io ia kept tr (((((xs (4 * j + 1)) : Int32).toInt64) <<< (((32 : Int32).toInt64) &&& 63)) ||| ((((xs (4 * j + 2)) : Int32).toInt64) &&& 4294967295)) (xs (4 * j + 3)) hR.hn _) (cwV 2 hts gL_law_X2_type rfl rfl rfl (by decide +kernel) ⟨Nat.le_of_ble_eq_true rfl, Nat.le_of_ble_eq_true rfl⟩) ⟨cPre.blind, va_recv hKc hPc (ci := 2) (q0 := 0) rfl rfl, cPre.mk hPc hKc hDc hN⟩ rfl rfl hl.1 rfl (lv_room (Nat.le_of_ble_eq_true rfl)) dL_law_162 ⟨Nat.le_of_ble_eq_true rfl, Nat.le_of_ble_eq_true rfl⟩) hS hFc (fun rv_4 u H1 locs hw_5 hP1 hD1 hk1 hS => ?_)
      obtain ⟨by_v_2, lnv_3⟩ := u
      try dsimp only at hw_5
      obtain ⟨hP2, hD2⟩ := va_join (wr := [((g 0), .inr (3, [.int (nI n), .ref (g 1), .ref (g 2), .ref (g 3), .int on, .int may, .int asd, .ref (g 4), .int (nI len), .ref (g 5), .ref (g 6), .ref (g 7), .long tr, .int patm, .int pfrm, .ref (g 8), .ref (g 9), .ref (g 10), .int prrm, .int prmm, .ref (g 11), .ref (g 12), .ref (g 13), .ref (g 14), .ref (g 15), .ref (g 16)])), ((g 1), .inl ((cG 1), 10, .inl hdm)), ((g 2), .inl ((cG 2), 10, .inl fim)), ((g 3), .inl ((cG 3), 10, .inl unm)), ((g 4), .inl ((cG 4), 300, .inl tx)), ((g 5), .inl ((cG 5), 2, .inl kp)), ((g 6), .inl ((cG 6), 2, .inl ko)), ((g 7), .inl ((cG 7), 2, .inl ka)), ((g 8), .inl ((cG 8), 10, .inl rhdm)), ((g 9), .inl ((cG 9), 10, .inl rifm)), ((g 10), .inl ((cG 10), 10, .inl rulm)), ((g 11), .inl ((cG 11), 8, .inl rdm)), ((g 12), .inl ((cG 12), 8, .inl bbm)), ((g 13), .inl ((cG 13), 8, .inl nwm)), ((g 14), .inl ((cG 14), 8, .inl otm)), ((g 15), .inl ((cG 15), 8, .inl evm)), ((g 16), .inl ((cG 16), 8, .inl odm))]) (w1 := (wX h cA by_v_2 lnv_3 pl tk tp (nI n) may hd fi un (nI n2) may2 hd2 fi2 un2 on asd io ia kept tr)) hP hD [0, 1, 2, 3, 4, 5, 6, 7, 8, 9, 10, 11, 12] [13, 14, 15, 16, 17, 18, 19, 20, 21, 22, 23, 24, 25, 26, 27, 28, 29] rfl rfl (by decide) (by decide) hk1 hFc hP1 hD1
      have hP := hP2.sub (ws' := (wLw h cA g cG by_v_2 lnv_3 pl tk tp (nI n) may hd fi un (nI n2) may2 hd2 fi2 un2 on asd io ia kept tr (nI n) hdm fim unm on may asd tx (nI len) kp ko ka tr patm pfrm rhdm rifm rulm prrm prmm rdm bbm nwm otm evm odm)) [17, 18, 19, 20, 21, 22, 23, 24, 25, 26, 27, 28, 29, 0, 1, 2, 3, 4, 5, 6, 7, 8, 9, 10, 11, 12, 13, 14, 15, 16] rfl
      have hD := hD2.sub (ws' := (wLw h cA g cG by_v_2 lnv_3 pl tk tp (nI n) may hd fi un (nI n2) may2 hd2 fi2 un2 on asd io ia kept tr (nI n) hdm fim unm on may asd tx (nI len) kp ko ka tr patm pfrm rhdm rifm rulm prrm prmm rdm bbm nwm otm evm odm)) [17, 18, 19, 20, 21, 22, 23, 24, 25, 26, 27, 28, 29, 0, 1, 2, 3, 4, 5, 6, 7, 8, 9, 10, 11, 12, 13, 14, 15, 16] (by decide) rfl
      clear hP1 hD1 hFc hk1
      generalize H1 = H at hP hS ⊢
      refine lv_aload_n hx hb dL_law_165 rfl (lv_at hl 2 rfl) ?_
      refine lv_aload_n hx hb dL_law_166 rfl (lv_at hl 0 rfl) ?_
      refine lv_iload_n hx hb dL_law_167 rfl (lv_at hl 3 rfl) ?_
      refine lv_iconst (v := 1) hx hb dL_law_168 (by decide) ?_
      refine lv_iadd hx hb dL_law_169 ?_
      refine lv_cv (nI_add (4 * j) 1) ?_
      refine wa_sld hx hb hX hbl hbA hS (4 * j + 1) rfl (by omega) (by omega) dL_law_170 ?_
      refine lv_i2l hx hb dL_law_171 rfl ?_
      refine lv_bipush (v := 32) hx hb dL_law_172 (by decide) ?_
      refine lv_lshl hx hb dL_law_174 rfl ?_
      refine lv_aload_n hx hb dL_law_175 rfl (lv_at hl 0 rfl) ?_
      refine lv_iload_n hx hb dL_law_176 rfl (lv_at hl 3 rfl) ?_
      refine lv_iconst (v := 2) hx hb dL_law_177 (by decide) ?_
      refine lv_iadd hx hb dL_law_178 ?_
      refine lv_cv (nI_add (4 * j) 2) ?_
      refine wa_sld hx hb hX hbl hbA hS (4 * j + 2) rfl (by omega) (by omega) dL_law_179 ?_
      refine lv_i2l hx hb dL_law_180 rfl ?_
      refine lv_ldc2 (v := 4294967295) hx hb hown (hts (.constantLong RL 13 (4294967295)) (by decide +kernel)) dL_law_181 ?_
      refine lv_land hx hb dL_law_184 ?_
      refine lv_lor hx hb dL_law_185 ?_
      refine lv_aload_n hx hb dL_law_186 rfl (lv_at hl 0 rfl) ?_
      refine lv_iload_n hx hb dL_law_187 rfl (lv_at hl 3 rfl) ?_
      refine lv_iconst (v := 3) hx hb dL_law_188 (by decide) ?_
      refine lv_iadd hx hb dL_law_189 ?_
      refine lv_cv (nI_add (4 * j) 3) ?_
      refine wa_sld hx hb hX hbl hbA hS (4 * j + 3) rfl (by omega) (by omega) dL_law_190 ?_
      have hPc := hP.sub (ws' := (wM g cG (nI n) hdm fim unm on may asd tx (nI len) kp ko ka tr patm pfrm rhdm rifm rulm prrm prmm rdm bbm nwm otm evm odm)) [13, 14, 15, 16, 17, 18, 19, 20, 21, 22, 23, 24, 25, 26, 27, 28, 29] rfl
      have hDc := hD.sub (ws' := (wM g cG (nI n) hdm fim unm on may asd tx (nI len) kp ko ka tr patm pfrm rhdm rifm rulm prrm prmm rdm bbm nwm otm evm odm)) [13, 14, 15, 16, 17, 18, 19, 20, 21, 22, 23, 24, 25, 26, 27, 28, 29] (by decide) rfl
      have hKc := hK.sub (tys' := (tM g cG)) [9, 10, 11, 12, 13, 14, 15, 16, 17, 18, 19, 20, 21, 22, 23, 24] rfl
      have hFc := va_free (wc := (wM g cG (nI n) hdm fim unm on may asd tx (nI len) kp ko ka tr patm pfrm rhdm rifm rulm prrm prmm rdm bbm nwm otm evm odm)) hD hS hA [13, 14, 15, 16, 17, 18, 19, 20, 21, 22, 23, 24, 25, 26, 27, 28, 29] rfl
      refine rw_i (D := D) (wc := (wM g cG (nI n) hdm fim unm on may asd tx (nI len) kp ko ka tr patm pfrm rhdm rifm rulm prrm prmm rdm bbm nwm otm evm odm)) (va_runV (As := [.long (((((xs (4 * j + 1)) : Int32).toInt64) <<< (((32 : Int32).toInt64) &&& 63)) ||| ((((xs (4 * j + 2)) : Int32).toInt64) &&& 4294967295)), .int (xs (4 * j + 3))]) (rest := [.int rv_4]) ⟨hx, hb, hml, hown, hts⟩ (c_X3_type l D g cG len (nI n) hdm fim unm on may asd tx kp ko ka tr patm pfrm rhdm rifm rulm prrm prmm rdm bbm nwm otm evm odm (((((xs (4 * j + 1)) : Int32).toInt64) <<< (((32 : Int32).toInt64) &&& 63)) ||| ((((xs (4 * j + 2)) : Int32).toInt64) &&& 4294967295)) (xs (4 * j + 3)) hR.hlen _) (cwV 2 hts gL_law_X3_type rfl rfl rfl (by decide +kernel) ⟨Nat.le_of_ble_eq_true rfl, Nat.le_of_ble_eq_true rfl⟩) ⟨cPre.blind, va_recv hKc hPc (ci := 3) (q0 := 0) rfl rfl, cPre.mk hPc hKc hDc hN⟩ rfl rfl hl.1 rfl (lv_room (Nat.le_of_ble_eq_true rfl)) dL_law_191 ⟨Nat.le_of_ble_eq_true rfl, Nat.le_of_ble_eq_true rfl⟩) hS hFc (fun rv_8 u H1 locs hw_9 hP1 hD1 hk1 hS => ?_)
      obtain ⟨txmv_6, tdmv_7⟩ := u
      try dsimp only at hw_9
      obtain ⟨hw_9, hpx_10⟩ := hw_9
      obtain ⟨hP2, hD2⟩ := va_join (wr := [((h 0), .inr (2, [.ref (h 1), .ref (h 3), .ref (h 7), .int on, .int asd, .ref (h 11), .ref (h 12), .int kept, .long tr])), ((h 1), .inr (1, [.ref (h 2), .int lnv_3, .int pl, .int tk, .int tp])), ((h 2), .inl ((cA 2), 300, .inl by_v_2)), ((h 3), .inr (0, [.int (nI n), .int may, .ref (h 4), .ref (h 5), .ref (h 6)])), ((h 4), .inl ((cA 4), 10, .inl hd)), ((h 5), .inl ((cA 5), 10, .inl fi)), ((h 6), .inl ((cA 6), 10, .inl un)), ((h 7), .inr (0, [.int (nI n2), .int may2, .ref (h 8), .ref (h 9), .ref (h 10)])), ((h 8), .inl ((cA 8), 10, .inl hd2)), ((h 9), .inl ((cA 9), 10, .inl fi2)), ((h 10), .inl ((cA 10), 10, .inl un2)), ((h 11), .inl ((cA 11), 2, .inl io)), ((h 12), .inl ((cA 12), 2, .inl ia))]) (w1 := (wM g cG (nI n) hdm fim unm on may asd txmv_6 (nI tdmv_7) kp ko ka tr patm pfrm rhdm rifm rulm prrm prmm rdm bbm nwm otm evm odm)) hP hD [13, 14, 15, 16, 17, 18, 19, 20, 21, 22, 23, 24, 25, 26, 27, 28, 29] [0, 1, 2, 3, 4, 5, 6, 7, 8, 9, 10, 11, 12] rfl rfl (by decide) (by decide) hk1 hFc hP1 hD1
      have hP := hP2.sub (ws' := (wLw h cA g cG by_v_2 lnv_3 pl tk tp (nI n) may hd fi un (nI n2) may2 hd2 fi2 un2 on asd io ia kept tr (nI n) hdm fim unm on may asd txmv_6 (nI tdmv_7) kp ko ka tr patm pfrm rhdm rifm rulm prrm prmm rdm bbm nwm otm evm odm)) [0, 1, 2, 3, 4, 5, 6, 7, 8, 9, 10, 11, 12, 13, 14, 15, 16, 17, 18, 19, 20, 21, 22, 23, 24, 25, 26, 27, 28, 29] rfl
      have hD := hD2.sub (ws' := (wLw h cA g cG by_v_2 lnv_3 pl tk tp (nI n) may hd fi un (nI n2) may2 hd2 fi2 un2 on asd io ia kept tr (nI n) hdm fim unm on may asd txmv_6 (nI tdmv_7) kp ko ka tr patm pfrm rhdm rifm rulm prrm prmm rdm bbm nwm otm evm odm)) [0, 1, 2, 3, 4, 5, 6, 7, 8, 9, 10, 11, 12, 13, 14, 15, 16, 17, 18, 19, 20, 21, 22, 23, 24, 25, 26, 27, 28, 29] (by decide) rfl
      clear hP1 hD1 hFc hk1
      generalize H1 = H at hP hS ⊢
      obtain ⟨eq_11, eq_12, hR_13⟩ := q_type hR hw_5 hw_9
      subst eq_12
      refine lv_icmp_eq (tgt := 703) hx hb dL_law_194 (by decide) (fun _ => ?_) (fun hh => absurd eq_11 hh)
      refine lv_iinc (v := nI (4 * (j + 1))) (lv' := [(3, .int (nI (4 * (j + 1)))), (0, .ref b), (1, .ref (h 0)), (2, .ref (g 0))]) hx hb dL_law_703 hl (k := 3) rfl (inc4 j) (by decide) rfl (fun ls hl => ?_)
      refine lv_goto (tgt := 18) hx hb dL_law_706 (by decide) ?_
      exact ih (j + 1) (by omega) h cA g cG n tdmv_7 n2 by_v_2 pl tk tp may hd fi un may2 hd2 fi2 un2 on asd io ia kept tr hdm fim unm txmv_6 kp ko ka patm pfrm rhdm rifm rulm prrm prmm rdm bbm nwm otm evm odm hR_13 _ _ hK hP hD hS _ (lv_sub hl [1, 2, 3, 0] rfl)
    · by_cases k_32_14 : ((xs (4 * j)) &&& 31) = 1
      · refine lv_tableIn (tgt := 199) hx hb dL_law_32 (by rw [k_32_14]; decide) (by rw [k_32_14]; decide) (by rw [k_32_14]; rfl) (by decide) ?_
        refine lv_aload_n hx hb dL_law_199 rfl (lv_at hl 1 rfl) ?_
        have hPc := hP.sub (ws' := (wX h cA by_ (nI len) pl tk tp (nI n) may hd fi un (nI n2) may2 hd2 fi2 un2 on asd io ia kept tr)) [0, 1, 2, 3, 4, 5, 6, 7, 8, 9, 10, 11, 12] rfl
        have hDc := hD.sub (ws' := (wX h cA by_ (nI len) pl tk tp (nI n) may hd fi un (nI n2) may2 hd2 fi2 un2 on asd io ia kept tr)) [0, 1, 2, 3, 4, 5, 6, 7, 8, 9, 10, 11, 12] (by decide) rfl
        have hKc := hK.sub (tys' := (tX h cA)) [0, 1, 2, 3, 4, 5, 6, 7, 8] rfl
        have hFc := va_free (wc := (wX h cA by_ (nI len) pl tk tp (nI n) may hd fi un (nI n2) may2 hd2 fi2 un2 on asd io ia kept tr)) hD hS hA [0, 1, 2, 3, 4, 5, 6, 7, 8, 9, 10, 11, 12] rfl
        refine rw_i (D := D) (wc := (wX h cA by_ (nI len) pl tk tp (nI n) may hd fi un (nI n2) may2 hd2 fi2 un2 on asd io ia kept tr)) (va_runV (As := []) (rest := []) ⟨hx, hb, hml, hown, hts⟩ (c_X2_clear l D h cA n by_ (nI len) pl tk tp may hd fi un (nI n2) may2 hd2 fi2 un2 on asd io ia kept tr hR.hn _) (cwV 0 hts gL_law_X2_clear rfl rfl rfl (by decide +kernel) ⟨Nat.le_of_ble_eq_true rfl, Nat.le_of_ble_eq_true rfl⟩) ⟨cPre.blind, va_recv hKc hPc (ci := 2) (q0 := 0) rfl rfl, cPre.mk hPc hKc hDc hN⟩ rfl rfl hl.1 rfl (lv_room (Nat.le_of_ble_eq_true rfl)) dL_law_200 ⟨Nat.le_of_ble_eq_true rfl, Nat.le_of_ble_eq_true rfl⟩) hS hFc (fun rv_16 u H1 locs hw_17 hP1 hD1 hk1 hS => ?_)
        obtain ⟨lnv_15, rfl⟩ : ∃ y, y = u := ⟨_, rfl⟩
        try dsimp only at hw_17
        obtain ⟨hP2, hD2⟩ := va_join (wr := [((g 0), .inr (3, [.int (nI n), .ref (g 1), .ref (g 2), .ref (g 3), .int on, .int may, .int asd, .ref (g 4), .int (nI len), .ref (g 5), .ref (g 6), .ref (g 7), .long tr, .int patm, .int pfrm, .ref (g 8), .ref (g 9), .ref (g 10), .int prrm, .int prmm, .ref (g 11), .ref (g 12), .ref (g 13), .ref (g 14), .ref (g 15), .ref (g 16)])), ((g 1), .inl ((cG 1), 10, .inl hdm)), ((g 2), .inl ((cG 2), 10, .inl fim)), ((g 3), .inl ((cG 3), 10, .inl unm)), ((g 4), .inl ((cG 4), 300, .inl tx)), ((g 5), .inl ((cG 5), 2, .inl kp)), ((g 6), .inl ((cG 6), 2, .inl ko)), ((g 7), .inl ((cG 7), 2, .inl ka)), ((g 8), .inl ((cG 8), 10, .inl rhdm)), ((g 9), .inl ((cG 9), 10, .inl rifm)), ((g 10), .inl ((cG 10), 10, .inl rulm)), ((g 11), .inl ((cG 11), 8, .inl rdm)), ((g 12), .inl ((cG 12), 8, .inl bbm)), ((g 13), .inl ((cG 13), 8, .inl nwm)), ((g 14), .inl ((cG 14), 8, .inl otm)), ((g 15), .inl ((cG 15), 8, .inl evm)), ((g 16), .inl ((cG 16), 8, .inl odm))]) (w1 := (wX h cA by_ lnv_15 pl tk tp (nI n) may hd fi un (nI n2) may2 hd2 fi2 un2 on asd io ia kept tr)) hP hD [0, 1, 2, 3, 4, 5, 6, 7, 8, 9, 10, 11, 12] [13, 14, 15, 16, 17, 18, 19, 20, 21, 22, 23, 24, 25, 26, 27, 28, 29] rfl rfl (by decide) (by decide) hk1 hFc hP1 hD1
        have hP := hP2.sub (ws' := (wLw h cA g cG by_ lnv_15 pl tk tp (nI n) may hd fi un (nI n2) may2 hd2 fi2 un2 on asd io ia kept tr (nI n) hdm fim unm on may asd tx (nI len) kp ko ka tr patm pfrm rhdm rifm rulm prrm prmm rdm bbm nwm otm evm odm)) [17, 18, 19, 20, 21, 22, 23, 24, 25, 26, 27, 28, 29, 0, 1, 2, 3, 4, 5, 6, 7, 8, 9, 10, 11, 12, 13, 14, 15, 16] rfl
        have hD := hD2.sub (ws' := (wLw h cA g cG by_ lnv_15 pl tk tp (nI n) may hd fi un (nI n2) may2 hd2 fi2 un2 on asd io ia kept tr (nI n) hdm fim unm on may asd tx (nI len) kp ko ka tr patm pfrm rhdm rifm rulm prrm prmm rdm bbm nwm otm evm odm)) [17, 18, 19, 20, 21, 22, 23, 24, 25, 26, 27, 28, 29, 0, 1, 2, 3, 4, 5, 6, 7, 8, 9, 10, 11, 12, 13, 14, 15, 16] (by decide) rfl
        clear hP1 hD1 hFc hk1
        generalize H1 = H at hP hS ⊢
        refine lv_aload_n hx hb dL_law_203 rfl (lv_at hl 2 rfl) ?_
        have hPc := hP.sub (ws' := (wM g cG (nI n) hdm fim unm on may asd tx (nI len) kp ko ka tr patm pfrm rhdm rifm rulm prrm prmm rdm bbm nwm otm evm odm)) [13, 14, 15, 16, 17, 18, 19, 20, 21, 22, 23, 24, 25, 26, 27, 28, 29] rfl
        have hDc := hD.sub (ws' := (wM g cG (nI n) hdm fim unm on may asd tx (nI len) kp ko ka tr patm pfrm rhdm rifm rulm prrm prmm rdm bbm nwm otm evm odm)) [13, 14, 15, 16, 17, 18, 19, 20, 21, 22, 23, 24, 25, 26, 27, 28, 29] (by decide) rfl
        have hKc := hK.sub (tys' := (tM g cG)) [9, 10, 11, 12, 13, 14, 15, 16, 17, 18, 19, 20, 21, 22, 23, 24] rfl
        have hFc := va_free (wc := (wM g cG (nI n) hdm fim unm on may asd tx (nI len) kp ko ka tr patm pfrm rhdm rifm rulm prrm prmm rdm bbm nwm otm evm odm)) hD hS hA [13, 14, 15, 16, 17, 18, 19, 20, 21, 22, 23, 24, 25, 26, 27, 28, 29] rfl
        refine rw_i (D := D) (wc := (wM g cG (nI n) hdm fim unm on may asd tx (nI len) kp ko ka tr patm pfrm rhdm rifm rulm prrm prmm rdm bbm nwm otm evm odm)) (va_runV (As := []) (rest := [.int rv_16]) ⟨hx, hb, hml, hown, hts⟩ (c_X3_clear l D g cG n hdm fim unm on may asd tx (nI len) kp ko ka tr patm pfrm rhdm rifm rulm prrm prmm rdm bbm nwm otm evm odm hR.hn _) (cwV 0 hts gL_law_X3_clear rfl rfl rfl (by decide +kernel) ⟨Nat.le_of_ble_eq_true rfl, Nat.le_of_ble_eq_true rfl⟩) ⟨cPre.blind, va_recv hKc hPc (ci := 3) (q0 := 0) rfl rfl, cPre.mk hPc hKc hDc hN⟩ rfl rfl hl.1 rfl (lv_room (Nat.le_of_ble_eq_true rfl)) dL_law_204 ⟨Nat.le_of_ble_eq_true rfl, Nat.le_of_ble_eq_true rfl⟩) hS hFc (fun rv_19 u H1 locs hw_20 hP1 hD1 hk1 hS => ?_)
        obtain ⟨tdmv_18, rfl⟩ : ∃ y, y = u := ⟨_, rfl⟩
        try dsimp only at hw_20
        obtain ⟨hP2, hD2⟩ := va_join (wr := [((h 0), .inr (2, [.ref (h 1), .ref (h 3), .ref (h 7), .int on, .int asd, .ref (h 11), .ref (h 12), .int kept, .long tr])), ((h 1), .inr (1, [.ref (h 2), .int lnv_15, .int pl, .int tk, .int tp])), ((h 2), .inl ((cA 2), 300, .inl by_)), ((h 3), .inr (0, [.int (nI n), .int may, .ref (h 4), .ref (h 5), .ref (h 6)])), ((h 4), .inl ((cA 4), 10, .inl hd)), ((h 5), .inl ((cA 5), 10, .inl fi)), ((h 6), .inl ((cA 6), 10, .inl un)), ((h 7), .inr (0, [.int (nI n2), .int may2, .ref (h 8), .ref (h 9), .ref (h 10)])), ((h 8), .inl ((cA 8), 10, .inl hd2)), ((h 9), .inl ((cA 9), 10, .inl fi2)), ((h 10), .inl ((cA 10), 10, .inl un2)), ((h 11), .inl ((cA 11), 2, .inl io)), ((h 12), .inl ((cA 12), 2, .inl ia))]) (w1 := (wM g cG (nI n) hdm fim unm on may asd tx tdmv_18 kp ko ka tr patm pfrm rhdm rifm rulm prrm prmm rdm bbm nwm otm evm odm)) hP hD [13, 14, 15, 16, 17, 18, 19, 20, 21, 22, 23, 24, 25, 26, 27, 28, 29] [0, 1, 2, 3, 4, 5, 6, 7, 8, 9, 10, 11, 12] rfl rfl (by decide) (by decide) hk1 hFc hP1 hD1
        have hP := hP2.sub (ws' := (wLw h cA g cG by_ lnv_15 pl tk tp (nI n) may hd fi un (nI n2) may2 hd2 fi2 un2 on asd io ia kept tr (nI n) hdm fim unm on may asd tx tdmv_18 kp ko ka tr patm pfrm rhdm rifm rulm prrm prmm rdm bbm nwm otm evm odm)) [0, 1, 2, 3, 4, 5, 6, 7, 8, 9, 10, 11, 12, 13, 14, 15, 16, 17, 18, 19, 20, 21, 22, 23, 24, 25, 26, 27, 28, 29] rfl
        have hD := hD2.sub (ws' := (wLw h cA g cG by_ lnv_15 pl tk tp (nI n) may hd fi un (nI n2) may2 hd2 fi2 un2 on asd io ia kept tr (nI n) hdm fim unm on may asd tx tdmv_18 kp ko ka tr patm pfrm rhdm rifm rulm prrm prmm rdm bbm nwm otm evm odm)) [0, 1, 2, 3, 4, 5, 6, 7, 8, 9, 10, 11, 12, 13, 14, 15, 16, 17, 18, 19, 20, 21, 22, 23, 24, 25, 26, 27, 28, 29] (by decide) rfl
        clear hP1 hD1 hFc hk1
        generalize H1 = H at hP hS ⊢
        obtain ⟨eq_21, eq_22, eq_23, hR_24⟩ := q_clear hR hw_17 hw_20
        subst eq_22
        subst eq_23
        refine lv_icmp_eq (tgt := 703) hx hb dL_law_207 (by decide) (fun _ => ?_) (fun hh => absurd eq_21 hh)
        refine lv_iinc (v := nI (4 * (j + 1))) (lv' := [(3, .int (nI (4 * (j + 1)))), (0, .ref b), (1, .ref (h 0)), (2, .ref (g 0))]) hx hb dL_law_703 hl (k := 3) rfl (inc4 j) (by decide) rfl (fun ls hl => ?_)
        refine lv_goto (tgt := 18) hx hb dL_law_706 (by decide) ?_
        exact ih (j + 1) (by omega) h cA g cG n 0 n2 by_ pl tk tp may hd fi un may2 hd2 fi2 un2 on asd io ia kept tr hdm fim unm tx kp ko ka patm pfrm rhdm rifm rulm prrm prmm rdm bbm nwm otm evm odm hR_24 _ _ hK hP hD hS _ (lv_sub hl [1, 2, 3, 0] rfl)
      · by_cases k_32_25 : ((xs (4 * j)) &&& 31) = 2
        · refine lv_tableIn (tgt := 212) hx hb dL_law_32 (by rw [k_32_25]; decide) (by rw [k_32_25]; decide) (by rw [k_32_25]; rfl) (by decide) ?_
          refine lv_aload_n hx hb dL_law_212 rfl (lv_at hl 1 rfl) ?_
          have hPc := hP.sub (ws' := (wXR h cA by_ (nI len) pl tk tp (nI n) may hd fi un (nI n2) may2 hd2 fi2 un2 on asd io ia kept tr (h 3) (h 7))) [0, 1, 2, 3, 4, 5, 6, 7, 8, 9, 10, 11, 12] rfl
          have hDc := hD.sub (ws' := (wXR h cA by_ (nI len) pl tk tp (nI n) may hd fi un (nI n2) may2 hd2 fi2 un2 on asd io ia kept tr (h 3) (h 7))) [0, 1, 2, 3, 4, 5, 6, 7, 8, 9, 10, 11, 12] (by decide) rfl
          have hKc := hK.sub (tys' := (tXR h cA)) [0, 1, 2, 3, 4, 5, 6, 7, 8] rfl
          have hFc := va_free (wc := (wXR h cA by_ (nI len) pl tk tp (nI n) may hd fi un (nI n2) may2 hd2 fi2 un2 on asd io ia kept tr (h 3) (h 7))) hD hS hA [0, 1, 2, 3, 4, 5, 6, 7, 8, 9, 10, 11, 12] rfl
          refine rw_i (D := D) (wc := (wXR h cA by_ (nI len) pl tk tp (nI n) may hd fi un (nI n2) may2 hd2 fi2 un2 on asd io ia kept tr (h 3) (h 7))) (va_runV (As := []) (rest := []) ⟨hx, hb, hml, hown, hts⟩ (c_X2_rules l D h cA len n n2 by_ pl tk tp may hd fi un may2 hd2 fi2 un2 on asd io ia kept tr hR.hlen _) (cwV 0 hts gL_law_X2_rules rfl rfl rfl (by decide +kernel) ⟨Nat.le_of_ble_eq_true rfl, Nat.le_of_ble_eq_true rfl⟩) ⟨cPre.blind, va_recv hKc hPc (ci := 2) (q0 := 0) rfl rfl, cPre.mk hPc hKc hDc hN⟩ rfl rfl hl.1 rfl (lv_room (Nat.le_of_ble_eq_true rfl)) dL_law_213 ⟨Nat.le_of_ble_eq_true rfl, Nat.le_of_ble_eq_true rfl⟩) hS hFc (fun rv_40 u H1 locs hw_41 hP1 hD1 hk1 hS => ?_)
          obtain ⟨rbv_26, rdrv_27, lnv_28, plv_29, tkv_30, tpv_31, sz2v_32, may2v_33, hd2v_34, fi2v_35, un2v_36, onv_37, asdv_38, keptv_39⟩ := u
          try dsimp only at hw_41
          obtain ⟨hw_41, hpx_42, hpx_43⟩ := hw_41
          obtain ⟨hP2, hD2⟩ := va_join (wr := [((g 0), .inr (3, [.int (nI n), .ref (g 1), .ref (g 2), .ref (g 3), .int on, .int may, .int asd, .ref (g 4), .int (nI len), .ref (g 5), .ref (g 6), .ref (g 7), .long tr, .int patm, .int pfrm, .ref (g 8), .ref (g 9), .ref (g 10), .int prrm, .int prmm, .ref (g 11), .ref (g 12), .ref (g 13), .ref (g 14), .ref (g 15), .ref (g 16)])), ((g 1), .inl ((cG 1), 10, .inl hdm)), ((g 2), .inl ((cG 2), 10, .inl fim)), ((g 3), .inl ((cG 3), 10, .inl unm)), ((g 4), .inl ((cG 4), 300, .inl tx)), ((g 5), .inl ((cG 5), 2, .inl kp)), ((g 6), .inl ((cG 6), 2, .inl ko)), ((g 7), .inl ((cG 7), 2, .inl ka)), ((g 8), .inl ((cG 8), 10, .inl rhdm)), ((g 9), .inl ((cG 9), 10, .inl rifm)), ((g 10), .inl ((cG 10), 10, .inl rulm)), ((g 11), .inl ((cG 11), 8, .inl rdm)), ((g 12), .inl ((cG 12), 8, .inl bbm)), ((g 13), .inl ((cG 13), 8, .inl nwm)), ((g 14), .inl ((cG 14), 8, .inl otm)), ((g 15), .inl ((cG 15), 8, .inl evm)), ((g 16), .inl ((cG 16), 8, .inl odm))]) (w1 := (wXR h cA by_ (nI lnv_28) plv_29 tkv_30 tpv_31 (nI n) may hd fi un (nI sz2v_32) may2v_33 hd2v_34 fi2v_35 un2v_36 onv_37 asdv_38 io ia keptv_39 tr rbv_26 rdrv_27)) hP hD [0, 1, 2, 3, 4, 5, 6, 7, 8, 9, 10, 11, 12] [13, 14, 15, 16, 17, 18, 19, 20, 21, 22, 23, 24, 25, 26, 27, 28, 29] rfl rfl (by decide) (by decide) hk1 hFc hP1 hD1
          clear hP1 hD1 hFc hk1
          generalize H1 = H at hP2 hS ⊢
          rcases rules_split hw_41 with ⟨eq_44, eq_45, hf_46⟩ | ⟨eq_44, eq_45, hf_46⟩
          · subst eq_44
            subst eq_45
            have hP := hP2.sub (ws' := (wLw h cA g cG by_ (nI lnv_28) plv_29 tkv_30 tpv_31 (nI n) may hd fi un (nI sz2v_32) may2v_33 hd2v_34 fi2v_35 un2v_36 onv_37 asdv_38 io ia keptv_39 tr (nI n) hdm fim unm on may asd tx (nI len) kp ko ka tr patm pfrm rhdm rifm rulm prrm prmm rdm bbm nwm otm evm odm)) [17, 18, 19, 20, 21, 22, 23, 24, 25, 26, 27, 28, 29, 0, 1, 2, 3, 4, 5, 6, 7, 8, 9, 10, 11, 12, 13, 14, 15, 16] rfl
            have hD := hD2.sub (ws' := (wLw h cA g cG by_ (nI lnv_28) plv_29 tkv_30 tpv_31 (nI n) may hd fi un (nI sz2v_32) may2v_33 hd2v_34 fi2v_35 un2v_36 onv_37 asdv_38 io ia keptv_39 tr (nI n) hdm fim unm on may asd tx (nI len) kp ko ka tr patm pfrm rhdm rifm rulm prrm prmm rdm bbm nwm otm evm odm)) [17, 18, 19, 20, 21, 22, 23, 24, 25, 26, 27, 28, 29, 0, 1, 2, 3, 4, 5, 6, 7, 8, 9, 10, 11, 12, 13, 14, 15, 16] (by decide) rfl
            clear hP2 hD2
            refine lv_aload_n hx hb dL_law_216 rfl (lv_at hl 2 rfl) ?_
            have hPc := hP.sub (ws' := (wM g cG (nI n) hdm fim unm on may asd tx (nI len) kp ko ka tr patm pfrm rhdm rifm rulm prrm prmm rdm bbm nwm otm evm odm)) [13, 14, 15, 16, 17, 18, 19, 20, 21, 22, 23, 24, 25, 26, 27, 28, 29] rfl
            have hDc := hD.sub (ws' := (wM g cG (nI n) hdm fim unm on may asd tx (nI len) kp ko ka tr patm pfrm rhdm rifm rulm prrm prmm rdm bbm nwm otm evm odm)) [13, 14, 15, 16, 17, 18, 19, 20, 21, 22, 23, 24, 25, 26, 27, 28, 29] (by decide) rfl
            have hKc := hK.sub (tys' := (tM g cG)) [9, 10, 11, 12, 13, 14, 15, 16, 17, 18, 19, 20, 21, 22, 23, 24] rfl
            have hFc := va_free (wc := (wM g cG (nI n) hdm fim unm on may asd tx (nI len) kp ko ka tr patm pfrm rhdm rifm rulm prrm prmm rdm bbm nwm otm evm odm)) hD hS hA [13, 14, 15, 16, 17, 18, 19, 20, 21, 22, 23, 24, 25, 26, 27, 28, 29] rfl
            refine rw_i (D := D) (wc := (wM g cG (nI n) hdm fim unm on may asd tx (nI len) kp ko ka tr patm pfrm rhdm rifm rulm prrm prmm rdm bbm nwm otm evm odm)) (va_runV (As := []) (rest := [.int rv_40]) ⟨hx, hb, hml, hown, hts⟩ (c_X3_rules l D g cG n len hdm fim unm on may asd tx kp ko ka tr patm pfrm rhdm rifm rulm prrm prmm rdm bbm nwm otm evm odm hR.hn hR.hlen _) (cwV 0 hts gL_law_X3_rules rfl rfl rfl (by decide +kernel) ⟨Nat.le_of_ble_eq_true rfl, Nat.le_of_ble_eq_true rfl⟩) ⟨cPre.blind, va_recv hKc hPc (ci := 3) (q0 := 0) rfl rfl, cPre.mk hPc hKc hDc hN⟩ rfl rfl hl.1 rfl (lv_room (Nat.le_of_ble_eq_true rfl)) dL_law_217 ⟨Nat.le_of_ble_eq_true rfl, Nat.le_of_ble_eq_true rfl⟩) hS hFc (fun rv_63 u H1 locs hw_64 hP1 hD1 hk1 hS => ?_)
            obtain ⟨rlmv_47, hdmv_48, fimv_49, unmv_50, onmv_51, maymv_52, asdmv_53, kpmv_54, tdmv_55, patmv_56, pfrmv_57, rhdmv_58, rifmv_59, rulmv_60, prrmv_61, prmmv_62⟩ := u
            try dsimp only at hw_64
            obtain ⟨hw_64, hpx_65, hpx_66⟩ := hw_64
            obtain ⟨hP2, hD2⟩ := va_join (wr := [((h 0), .inr (2, [.ref (h 1), .ref (h 3), .ref (h 7), .int onv_37, .int asdv_38, .ref (h 11), .ref (h 12), .int keptv_39, .long tr])), ((h 1), .inr (1, [.ref (h 2), .int (nI lnv_28), .int plv_29, .int tkv_30, .int tpv_31])), ((h 2), .inl ((cA 2), 300, .inl by_)), ((h 3), .inr (0, [.int (nI n), .int may, .ref (h 4), .ref (h 5), .ref (h 6)])), ((h 4), .inl ((cA 4), 10, .inl hd)), ((h 5), .inl ((cA 5), 10, .inl fi)), ((h 6), .inl ((cA 6), 10, .inl un)), ((h 7), .inr (0, [.int (nI sz2v_32), .int may2v_33, .ref (h 8), .ref (h 9), .ref (h 10)])), ((h 8), .inl ((cA 8), 10, .inl hd2v_34)), ((h 9), .inl ((cA 9), 10, .inl fi2v_35)), ((h 10), .inl ((cA 10), 10, .inl un2v_36)), ((h 11), .inl ((cA 11), 2, .inl io)), ((h 12), .inl ((cA 12), 2, .inl ia))]) (w1 := (wM g cG (nI rlmv_47) hdmv_48 fimv_49 unmv_50 onmv_51 maymv_52 asdmv_53 tx (nI tdmv_55) kpmv_54 ko ka tr patmv_56 pfrmv_57 rhdmv_58 rifmv_59 rulmv_60 prrmv_61 prmmv_62 rdm bbm nwm otm evm odm)) hP hD [13, 14, 15, 16, 17, 18, 19, 20, 21, 22, 23, 24, 25, 26, 27, 28, 29] [0, 1, 2, 3, 4, 5, 6, 7, 8, 9, 10, 11, 12] rfl rfl (by decide) (by decide) hk1 hFc hP1 hD1
            have hP := hP2.sub (ws' := (wLw h cA g cG by_ (nI lnv_28) plv_29 tkv_30 tpv_31 (nI n) may hd fi un (nI sz2v_32) may2v_33 hd2v_34 fi2v_35 un2v_36 onv_37 asdv_38 io ia keptv_39 tr (nI rlmv_47) hdmv_48 fimv_49 unmv_50 onmv_51 maymv_52 asdmv_53 tx (nI tdmv_55) kpmv_54 ko ka tr patmv_56 pfrmv_57 rhdmv_58 rifmv_59 rulmv_60 prrmv_61 prmmv_62 rdm bbm nwm otm evm odm)) [0, 1, 2, 3, 4, 5, 6, 7, 8, 9, 10, 11, 12, 13, 14, 15, 16, 17, 18, 19, 20, 21, 22, 23, 24, 25, 26, 27, 28, 29] rfl
            have hD := hD2.sub (ws' := (wLw h cA g cG by_ (nI lnv_28) plv_29 tkv_30 tpv_31 (nI n) may hd fi un (nI sz2v_32) may2v_33 hd2v_34 fi2v_35 un2v_36 onv_37 asdv_38 io ia keptv_39 tr (nI rlmv_47) hdmv_48 fimv_49 unmv_50 onmv_51 maymv_52 asdmv_53 tx (nI tdmv_55) kpmv_54 ko ka tr patmv_56 pfrmv_57 rhdmv_58 rifmv_59 rulmv_60 prrmv_61 prmmv_62 rdm bbm nwm otm evm odm)) [0, 1, 2, 3, 4, 5, 6, 7, 8, 9, 10, 11, 12, 13, 14, 15, 16, 17, 18, 19, 20, 21, 22, 23, 24, 25, 26, 27, 28, 29] (by decide) rfl
            clear hP1 hD1 hFc hk1
            generalize H1 = H at hP hS ⊢
            obtain ⟨eq_67, eq_68, eq_69, eq_70, eq_71, eq_72, hR_73⟩ := q_rules_f hR hw_41 hf_46 hw_64
            subst eq_68
            subst eq_69
            subst eq_70
            subst eq_71
            subst eq_72
            refine lv_icmp_eq (tgt := 703) hx hb dL_law_220 (by decide) (fun _ => ?_) (fun hh => absurd eq_67 hh)
            refine lv_iinc (v := nI (4 * (j + 1))) (lv' := [(3, .int (nI (4 * (j + 1)))), (0, .ref b), (1, .ref (h 0)), (2, .ref (g 0))]) hx hb dL_law_703 hl (k := 3) rfl (inc4 j) (by decide) rfl (fun ls hl => ?_)
            refine lv_goto (tgt := 18) hx hb dL_law_706 (by decide) ?_
            exact ih (j + 1) (by omega) h cA g cG n lnv_28 sz2v_32 by_ plv_29 tkv_30 tpv_31 may hd fi un may2v_33 hd2v_34 fi2v_35 un2v_36 onv_37 asdv_38 io ia keptv_39 tr hdmv_48 fimv_49 unmv_50 tx kpmv_54 ko ka patmv_56 pfrmv_57 rhdmv_58 rifmv_59 rulmv_60 prrmv_61 prmmv_62 rdm bbm nwm otm evm odm hR_73 _ _ hK hP hD hS _ (lv_sub hl [1, 2, 3, 0] rfl)
          · subst eq_44
            subst eq_45
            have hP := hP2.sub (ws' := (wLw (swH h) (swC cA) g cG by_ (nI lnv_28) plv_29 tkv_30 tpv_31 (nI sz2v_32) may2v_33 hd2v_34 fi2v_35 un2v_36 (nI n) may hd fi un onv_37 asdv_38 io ia keptv_39 tr (nI n) hdm fim unm on may asd tx (nI len) kp ko ka tr patm pfrm rhdm rifm rulm prrm prmm rdm bbm nwm otm evm odm)) [17, 18, 19, 24, 25, 26, 27, 20, 21, 22, 23, 28, 29, 0, 1, 2, 3, 4, 5, 6, 7, 8, 9, 10, 11, 12, 13, 14, 15, 16] rfl
            have hD := hD2.sub (ws' := (wLw (swH h) (swC cA) g cG by_ (nI lnv_28) plv_29 tkv_30 tpv_31 (nI sz2v_32) may2v_33 hd2v_34 fi2v_35 un2v_36 (nI n) may hd fi un onv_37 asdv_38 io ia keptv_39 tr (nI n) hdm fim unm on may asd tx (nI len) kp ko ka tr patm pfrm rhdm rifm rulm prrm prmm rdm bbm nwm otm evm odm)) [17, 18, 19, 24, 25, 26, 27, 20, 21, 22, 23, 28, 29, 0, 1, 2, 3, 4, 5, 6, 7, 8, 9, 10, 11, 12, 13, 14, 15, 16] (by decide) rfl
            replace hK := hK.sub (tys' := (tLw (swH h) (swC cA) g cG)) [0, 4, 5, 6, 1, 2, 3, 7, 8, 9, 10, 11, 12, 13, 14, 15, 16, 17, 18, 19, 20, 21, 22, 23, 24] rfl
            replace hl : lv_has ls 4 [(0, .ref b), (1, .ref (swH h 0)), (2, .ref (g 0)), (3, .int (nI (4 * j)))] := hl
            clear hP2 hD2
            refine lv_aload_n hx hb dL_law_216 rfl (lv_at hl 2 rfl) ?_
            have hPc := hP.sub (ws' := (wM g cG (nI n) hdm fim unm on may asd tx (nI len) kp ko ka tr patm pfrm rhdm rifm rulm prrm prmm rdm bbm nwm otm evm odm)) [13, 14, 15, 16, 17, 18, 19, 20, 21, 22, 23, 24, 25, 26, 27, 28, 29] rfl
            have hDc := hD.sub (ws' := (wM g cG (nI n) hdm fim unm on may asd tx (nI len) kp ko ka tr patm pfrm rhdm rifm rulm prrm prmm rdm bbm nwm otm evm odm)) [13, 14, 15, 16, 17, 18, 19, 20, 21, 22, 23, 24, 25, 26, 27, 28, 29] (by decide) rfl
            have hKc := hK.sub (tys' := (tM g cG)) [9, 10, 11, 12, 13, 14, 15, 16, 17, 18, 19, 20, 21, 22, 23, 24] rfl
            have hFc := va_free (wc := (wM g cG (nI n) hdm fim unm on may asd tx (nI len) kp ko ka tr patm pfrm rhdm rifm rulm prrm prmm rdm bbm nwm otm evm odm)) hD hS hA [13, 14, 15, 16, 17, 18, 19, 20, 21, 22, 23, 24, 25, 26, 27, 28, 29] rfl
            refine rw_i (D := D) (wc := (wM g cG (nI n) hdm fim unm on may asd tx (nI len) kp ko ka tr patm pfrm rhdm rifm rulm prrm prmm rdm bbm nwm otm evm odm)) (va_runV (As := []) (rest := [.int rv_40]) ⟨hx, hb, hml, hown, hts⟩ (c_X3_rules l D g cG n len hdm fim unm on may asd tx kp ko ka tr patm pfrm rhdm rifm rulm prrm prmm rdm bbm nwm otm evm odm hR.hn hR.hlen _) (cwV 0 hts gL_law_X3_rules rfl rfl rfl (by decide +kernel) ⟨Nat.le_of_ble_eq_true rfl, Nat.le_of_ble_eq_true rfl⟩) ⟨cPre.blind, va_recv hKc hPc (ci := 3) (q0 := 0) rfl rfl, cPre.mk hPc hKc hDc hN⟩ rfl rfl hl.1 rfl (lv_room (Nat.le_of_ble_eq_true rfl)) dL_law_217 ⟨Nat.le_of_ble_eq_true rfl, Nat.le_of_ble_eq_true rfl⟩) hS hFc (fun rv_90 u H1 locs hw_91 hP1 hD1 hk1 hS => ?_)
            obtain ⟨rlmv_74, hdmv_75, fimv_76, unmv_77, onmv_78, maymv_79, asdmv_80, kpmv_81, tdmv_82, patmv_83, pfrmv_84, rhdmv_85, rifmv_86, rulmv_87, prrmv_88, prmmv_89⟩ := u
            try dsimp only at hw_91
            obtain ⟨hw_91, hpx_92, hpx_93⟩ := hw_91
            obtain ⟨hP2, hD2⟩ := va_join (wr := [(((swH h) 0), .inr (2, [.ref ((swH h) 1), .ref ((swH h) 3), .ref ((swH h) 7), .int onv_37, .int asdv_38, .ref ((swH h) 11), .ref ((swH h) 12), .int keptv_39, .long tr])), (((swH h) 1), .inr (1, [.ref ((swH h) 2), .int (nI lnv_28), .int plv_29, .int tkv_30, .int tpv_31])), (((swH h) 2), .inl (((swC cA) 2), 300, .inl by_)), (((swH h) 3), .inr (0, [.int (nI sz2v_32), .int may2v_33, .ref ((swH h) 4), .ref ((swH h) 5), .ref ((swH h) 6)])), (((swH h) 4), .inl (((swC cA) 4), 10, .inl hd2v_34)), (((swH h) 5), .inl (((swC cA) 5), 10, .inl fi2v_35)), (((swH h) 6), .inl (((swC cA) 6), 10, .inl un2v_36)), (((swH h) 7), .inr (0, [.int (nI n), .int may, .ref ((swH h) 8), .ref ((swH h) 9), .ref ((swH h) 10)])), (((swH h) 8), .inl (((swC cA) 8), 10, .inl hd)), (((swH h) 9), .inl (((swC cA) 9), 10, .inl fi)), (((swH h) 10), .inl (((swC cA) 10), 10, .inl un)), (((swH h) 11), .inl (((swC cA) 11), 2, .inl io)), (((swH h) 12), .inl (((swC cA) 12), 2, .inl ia))]) (w1 := (wM g cG (nI rlmv_74) hdmv_75 fimv_76 unmv_77 onmv_78 maymv_79 asdmv_80 tx (nI tdmv_82) kpmv_81 ko ka tr patmv_83 pfrmv_84 rhdmv_85 rifmv_86 rulmv_87 prrmv_88 prmmv_89 rdm bbm nwm otm evm odm)) hP hD [13, 14, 15, 16, 17, 18, 19, 20, 21, 22, 23, 24, 25, 26, 27, 28, 29] [0, 1, 2, 3, 4, 5, 6, 7, 8, 9, 10, 11, 12] rfl rfl (by decide) (by decide) hk1 hFc hP1 hD1
            have hP := hP2.sub (ws' := (wLw (swH h) (swC cA) g cG by_ (nI lnv_28) plv_29 tkv_30 tpv_31 (nI sz2v_32) may2v_33 hd2v_34 fi2v_35 un2v_36 (nI n) may hd fi un onv_37 asdv_38 io ia keptv_39 tr (nI rlmv_74) hdmv_75 fimv_76 unmv_77 onmv_78 maymv_79 asdmv_80 tx (nI tdmv_82) kpmv_81 ko ka tr patmv_83 pfrmv_84 rhdmv_85 rifmv_86 rulmv_87 prrmv_88 prmmv_89 rdm bbm nwm otm evm odm)) [0, 1, 2, 3, 4, 5, 6, 7, 8, 9, 10, 11, 12, 13, 14, 15, 16, 17, 18, 19, 20, 21, 22, 23, 24, 25, 26, 27, 28, 29] rfl
            have hD := hD2.sub (ws' := (wLw (swH h) (swC cA) g cG by_ (nI lnv_28) plv_29 tkv_30 tpv_31 (nI sz2v_32) may2v_33 hd2v_34 fi2v_35 un2v_36 (nI n) may hd fi un onv_37 asdv_38 io ia keptv_39 tr (nI rlmv_74) hdmv_75 fimv_76 unmv_77 onmv_78 maymv_79 asdmv_80 tx (nI tdmv_82) kpmv_81 ko ka tr patmv_83 pfrmv_84 rhdmv_85 rifmv_86 rulmv_87 prrmv_88 prmmv_89 rdm bbm nwm otm evm odm)) [0, 1, 2, 3, 4, 5, 6, 7, 8, 9, 10, 11, 12, 13, 14, 15, 16, 17, 18, 19, 20, 21, 22, 23, 24, 25, 26, 27, 28, 29] (by decide) rfl
            clear hP1 hD1 hFc hk1
            generalize H1 = H at hP hS ⊢
            obtain ⟨eq_94, eq_95, eq_96, eq_97, eq_98, eq_99, hR_100⟩ := q_rules_s hR hw_41 hf_46 hw_91
            subst eq_95
            subst eq_96
            subst eq_97
            subst eq_98
            subst eq_99
            refine lv_icmp_eq (tgt := 703) hx hb dL_law_220 (by decide) (fun _ => ?_) (fun hh => absurd eq_94 hh)
            refine lv_iinc (v := nI (4 * (j + 1))) (lv' := [(3, .int (nI (4 * (j + 1)))), (0, .ref b), (1, .ref (swH h 0)), (2, .ref (g 0))]) hx hb dL_law_703 hl (k := 3) rfl (inc4 j) (by decide) rfl (fun ls hl => ?_)
            refine lv_goto (tgt := 18) hx hb dL_law_706 (by decide) ?_
            exact ih (j + 1) (by omega) (swH h) (swC cA) g cG sz2v_32 lnv_28 n by_ plv_29 tkv_30 tpv_31 may2v_33 hd2v_34 fi2v_35 un2v_36 may hd fi un onv_37 asdv_38 io ia keptv_39 tr hdmv_75 fimv_76 unmv_77 tx kpmv_81 ko ka patmv_83 pfrmv_84 rhdmv_85 rifmv_86 rulmv_87 prrmv_88 prmmv_89 rdm bbm nwm otm evm odm hR_100 _ _ hK hP hD hS _ (lv_sub hl [1, 2, 3, 0] rfl)
        · by_cases k_32_101 : ((xs (4 * j)) &&& 31) = 3
          · refine lv_tableIn (tgt := 225) hx hb dL_law_32 (by rw [k_32_101]; decide) (by rw [k_32_101]; decide) (by rw [k_32_101]; rfl) (by decide) ?_
            refine lv_aload_n hx hb dL_law_225 rfl (lv_at hl 1 rfl) ?_
            refine lv_aload_n hx hb dL_law_226 rfl (lv_at hl 0 rfl) ?_
            refine lv_iload_n hx hb dL_law_227 rfl (lv_at hl 3 rfl) ?_
            refine lv_iconst (v := 1) hx hb dL_law_228 (by decide) ?_
            refine lv_iadd hx hb dL_law_229 ?_
            refine lv_cv (nI_add (4 * j) 1) ?_
            refine wa_sld hx hb hX hbl hbA hS (4 * j + 1) rfl (by omega) (by omega) dL_law_230 ?_
            refine lv_aload_n hx hb dL_law_231 rfl (lv_at hl 0 rfl) ?_
            refine lv_iload_n hx hb dL_law_232 rfl (lv_at hl 3 rfl) ?_
            refine lv_iconst (v := 2) hx hb dL_law_233 (by decide) ?_
            refine lv_iadd hx hb dL_law_234 ?_
            refine lv_cv (nI_add (4 * j) 2) ?_
            refine wa_sld hx hb hX hbl hbA hS (4 * j + 2) rfl (by omega) (by omega) dL_law_235 ?_
            have hPc := hP.sub (ws' := (wX h cA by_ (nI len) pl tk tp (nI n) may hd fi un (nI n2) may2 hd2 fi2 un2 on asd io ia kept tr)) [0, 1, 2, 3, 4, 5, 6, 7, 8, 9, 10, 11, 12] rfl
            have hDc := hD.sub (ws' := (wX h cA by_ (nI len) pl tk tp (nI n) may hd fi un (nI n2) may2 hd2 fi2 un2 on asd io ia kept tr)) [0, 1, 2, 3, 4, 5, 6, 7, 8, 9, 10, 11, 12] (by decide) rfl
            have hKc := hK.sub (tys' := (tX h cA)) [0, 1, 2, 3, 4, 5, 6, 7, 8] rfl
            refine ro_i (D := D) (va_runV (As := [.int (xs (4 * j + 1)), .int (xs (4 * j + 2))]) (rest := []) ⟨hx, hb, hml, hown, hts⟩ (c_X2_rule l D h cA n by_ (nI len) pl tk tp may hd fi un (nI n2) may2 hd2 fi2 un2 on asd io ia kept tr (xs (4 * j + 1)) (xs (4 * j + 2)) hR.hn _) (cwV 2 hts gL_law_X2_rule rfl rfl rfl (by decide +kernel) ⟨Nat.le_of_ble_eq_true rfl, Nat.le_of_ble_eq_true rfl⟩) ⟨cPre.blind, va_recv hKc hPc (ci := 2) (q0 := 0) rfl rfl, cPre.mk hPc hKc hDc hN⟩ rfl rfl hl.1 rfl (lv_room (Nat.le_of_ble_eq_true rfl)) dL_law_236 ⟨Nat.le_of_ble_eq_true rfl, Nat.le_of_ble_eq_true rfl⟩) hS hA (fun H locs hkp0 hS => ?_)
            replace hP := hkp0 _ hP
            refine lv_aload_n hx hb dL_law_239 rfl (lv_at hl 2 rfl) ?_
            refine lv_aload_n hx hb dL_law_240 rfl (lv_at hl 0 rfl) ?_
            refine lv_iload_n hx hb dL_law_241 rfl (lv_at hl 3 rfl) ?_
            refine lv_iconst (v := 1) hx hb dL_law_242 (by decide) ?_
            refine lv_iadd hx hb dL_law_243 ?_
            refine lv_cv (nI_add (4 * j) 1) ?_
            refine wa_sld hx hb hX hbl hbA hS (4 * j + 1) rfl (by omega) (by omega) dL_law_244 ?_
            refine lv_aload_n hx hb dL_law_245 rfl (lv_at hl 0 rfl) ?_
            refine lv_iload_n hx hb dL_law_246 rfl (lv_at hl 3 rfl) ?_
            refine lv_iconst (v := 2) hx hb dL_law_247 (by decide) ?_
            refine lv_iadd hx hb dL_law_248 ?_
            refine lv_cv (nI_add (4 * j) 2) ?_
            refine wa_sld hx hb hX hbl hbA hS (4 * j + 2) rfl (by omega) (by omega) dL_law_249 ?_
            have hPc := hP.sub (ws' := (wM g cG (nI n) hdm fim unm on may asd tx (nI len) kp ko ka tr patm pfrm rhdm rifm rulm prrm prmm rdm bbm nwm otm evm odm)) [13, 14, 15, 16, 17, 18, 19, 20, 21, 22, 23, 24, 25, 26, 27, 28, 29] rfl
            have hDc := hD.sub (ws' := (wM g cG (nI n) hdm fim unm on may asd tx (nI len) kp ko ka tr patm pfrm rhdm rifm rulm prrm prmm rdm bbm nwm otm evm odm)) [13, 14, 15, 16, 17, 18, 19, 20, 21, 22, 23, 24, 25, 26, 27, 28, 29] (by decide) rfl
            have hKc := hK.sub (tys' := (tM g cG)) [9, 10, 11, 12, 13, 14, 15, 16, 17, 18, 19, 20, 21, 22, 23, 24] rfl
            refine ro_i (D := D) (va_runV (As := [.int (xs (4 * j + 1)), .int (xs (4 * j + 2))]) (rest := [.int (s_X2_rule n hd fi un on (xs (4 * j + 1)) (xs (4 * j + 2)))]) ⟨hx, hb, hml, hown, hts⟩ (c_X3_rule l D g cG n hdm fim unm on may asd tx (nI len) kp ko ka tr patm pfrm rhdm rifm rulm prrm prmm rdm bbm nwm otm evm odm (xs (4 * j + 1)) (xs (4 * j + 2)) hR.hn _) (cwV 2 hts gL_law_X3_rule rfl rfl rfl (by decide +kernel) ⟨Nat.le_of_ble_eq_true rfl, Nat.le_of_ble_eq_true rfl⟩) ⟨cPre.blind, va_recv hKc hPc (ci := 3) (q0 := 0) rfl rfl, cPre.mk hPc hKc hDc hN⟩ rfl rfl hl.1 rfl (lv_room (Nat.le_of_ble_eq_true rfl)) dL_law_250 ⟨Nat.le_of_ble_eq_true rfl, Nat.le_of_ble_eq_true rfl⟩) hS hA (fun H locs hkp0 hS => ?_)
            replace hP := hkp0 _ hP
            refine lv_icmp_eq (tgt := 703) hx hb dL_law_253 (by decide) (fun _ => ?_) (fun hh => absurd (q_rule hR (xs (4 * j + 1)) (xs (4 * j + 2))) hh)
            refine lv_iinc (v := nI (4 * (j + 1))) (lv' := [(3, .int (nI (4 * (j + 1)))), (0, .ref b), (1, .ref (h 0)), (2, .ref (g 0))]) hx hb dL_law_703 hl (k := 3) rfl (inc4 j) (by decide) rfl (fun ls hl => ?_)
            refine lv_goto (tgt := 18) hx hb dL_law_706 (by decide) ?_
            exact ih (j + 1) (by omega) h cA g cG n len n2 by_ pl tk tp may hd fi un may2 hd2 fi2 un2 on asd io ia kept tr hdm fim unm tx kp ko ka patm pfrm rhdm rifm rulm prrm prmm rdm bbm nwm otm evm odm hR _ _ hK hP hD hS _ (lv_sub hl [1, 2, 3, 0] rfl)
          · by_cases k_32_102 : ((xs (4 * j)) &&& 31) = 4
            · refine lv_tableIn (tgt := 258) hx hb dL_law_32 (by rw [k_32_102]; decide) (by rw [k_32_102]; decide) (by rw [k_32_102]; rfl) (by decide) ?_
              refine lv_aload_n hx hb dL_law_258 rfl (lv_at hl 1 rfl) ?_
              refine lv_aload_n hx hb dL_law_259 rfl (lv_at hl 0 rfl) ?_
              refine lv_iload_n hx hb dL_law_260 rfl (lv_at hl 3 rfl) ?_
              refine lv_iconst (v := 1) hx hb dL_law_261 (by decide) ?_
              refine lv_iadd hx hb dL_law_262 ?_
              refine lv_cv (nI_add (4 * j) 1) ?_
              refine wa_sld hx hb hX hbl hbA hS (4 * j + 1) rfl (by omega) (by omega) dL_law_263 ?_
              refine lv_aload_n hx hb dL_law_264 rfl (lv_at hl 0 rfl) ?_
              refine lv_iload_n hx hb dL_law_265 rfl (lv_at hl 3 rfl) ?_
              refine lv_iconst (v := 2) hx hb dL_law_266 (by decide) ?_
              refine lv_iadd hx hb dL_law_267 ?_
              refine lv_cv (nI_add (4 * j) 2) ?_
              refine wa_sld hx hb hX hbl hbA hS (4 * j + 2) rfl (by omega) (by omega) dL_law_268 ?_
              have hPc := hP.sub (ws' := (wX h cA by_ (nI len) pl tk tp (nI n) may hd fi un (nI n2) may2 hd2 fi2 un2 on asd io ia kept tr)) [0, 1, 2, 3, 4, 5, 6, 7, 8, 9, 10, 11, 12] rfl
              have hDc := hD.sub (ws' := (wX h cA by_ (nI len) pl tk tp (nI n) may hd fi un (nI n2) may2 hd2 fi2 un2 on asd io ia kept tr)) [0, 1, 2, 3, 4, 5, 6, 7, 8, 9, 10, 11, 12] (by decide) rfl
              have hKc := hK.sub (tys' := (tX h cA)) [0, 1, 2, 3, 4, 5, 6, 7, 8] rfl
              have hFc := va_free (wc := (wX h cA by_ (nI len) pl tk tp (nI n) may hd fi un (nI n2) may2 hd2 fi2 un2 on asd io ia kept tr)) hD hS hA [0, 1, 2, 3, 4, 5, 6, 7, 8, 9, 10, 11, 12] rfl
              refine rw_i (D := D) (wc := (wX h cA by_ (nI len) pl tk tp (nI n) may hd fi un (nI n2) may2 hd2 fi2 un2 on asd io ia kept tr)) (va_runV (As := [.int (xs (4 * j + 1)), .int (xs (4 * j + 2))]) (rest := []) ⟨hx, hb, hml, hown, hts⟩ (c_X2_turn l D h cA n by_ (nI len) pl tk tp may hd fi un (nI n2) may2 hd2 fi2 un2 on asd io ia kept tr (xs (4 * j + 1)) (xs (4 * j + 2)) hR.hn _) (cwV 2 hts gL_law_X2_turn rfl rfl rfl (by decide +kernel) ⟨Nat.le_of_ble_eq_true rfl, Nat.le_of_ble_eq_true rfl⟩) ⟨cPre.blind, va_recv hKc hPc (ci := 2) (q0 := 0) rfl rfl, cPre.mk hPc hKc hDc hN⟩ rfl rfl hl.1 rfl (lv_room (Nat.le_of_ble_eq_true rfl)) dL_law_269 ⟨Nat.le_of_ble_eq_true rfl, Nat.le_of_ble_eq_true rfl⟩) hS hFc (fun rv_104 u H1 locs hw_105 hP1 hD1 hk1 hS => ?_)
              obtain ⟨onv_103, rfl⟩ : ∃ y, y = u := ⟨_, rfl⟩
              try dsimp only at hw_105
              obtain ⟨hP2, hD2⟩ := va_join (wr := [((g 0), .inr (3, [.int (nI n), .ref (g 1), .ref (g 2), .ref (g 3), .int on, .int may, .int asd, .ref (g 4), .int (nI len), .ref (g 5), .ref (g 6), .ref (g 7), .long tr, .int patm, .int pfrm, .ref (g 8), .ref (g 9), .ref (g 10), .int prrm, .int prmm, .ref (g 11), .ref (g 12), .ref (g 13), .ref (g 14), .ref (g 15), .ref (g 16)])), ((g 1), .inl ((cG 1), 10, .inl hdm)), ((g 2), .inl ((cG 2), 10, .inl fim)), ((g 3), .inl ((cG 3), 10, .inl unm)), ((g 4), .inl ((cG 4), 300, .inl tx)), ((g 5), .inl ((cG 5), 2, .inl kp)), ((g 6), .inl ((cG 6), 2, .inl ko)), ((g 7), .inl ((cG 7), 2, .inl ka)), ((g 8), .inl ((cG 8), 10, .inl rhdm)), ((g 9), .inl ((cG 9), 10, .inl rifm)), ((g 10), .inl ((cG 10), 10, .inl rulm)), ((g 11), .inl ((cG 11), 8, .inl rdm)), ((g 12), .inl ((cG 12), 8, .inl bbm)), ((g 13), .inl ((cG 13), 8, .inl nwm)), ((g 14), .inl ((cG 14), 8, .inl otm)), ((g 15), .inl ((cG 15), 8, .inl evm)), ((g 16), .inl ((cG 16), 8, .inl odm))]) (w1 := (wX h cA by_ (nI len) pl tk tp (nI n) may hd fi un (nI n2) may2 hd2 fi2 un2 onv_103 asd io ia kept tr)) hP hD [0, 1, 2, 3, 4, 5, 6, 7, 8, 9, 10, 11, 12] [13, 14, 15, 16, 17, 18, 19, 20, 21, 22, 23, 24, 25, 26, 27, 28, 29] rfl rfl (by decide) (by decide) hk1 hFc hP1 hD1
              have hP := hP2.sub (ws' := (wLw h cA g cG by_ (nI len) pl tk tp (nI n) may hd fi un (nI n2) may2 hd2 fi2 un2 onv_103 asd io ia kept tr (nI n) hdm fim unm on may asd tx (nI len) kp ko ka tr patm pfrm rhdm rifm rulm prrm prmm rdm bbm nwm otm evm odm)) [17, 18, 19, 20, 21, 22, 23, 24, 25, 26, 27, 28, 29, 0, 1, 2, 3, 4, 5, 6, 7, 8, 9, 10, 11, 12, 13, 14, 15, 16] rfl
              have hD := hD2.sub (ws' := (wLw h cA g cG by_ (nI len) pl tk tp (nI n) may hd fi un (nI n2) may2 hd2 fi2 un2 onv_103 asd io ia kept tr (nI n) hdm fim unm on may asd tx (nI len) kp ko ka tr patm pfrm rhdm rifm rulm prrm prmm rdm bbm nwm otm evm odm)) [17, 18, 19, 20, 21, 22, 23, 24, 25, 26, 27, 28, 29, 0, 1, 2, 3, 4, 5, 6, 7, 8, 9, 10, 11, 12, 13, 14, 15, 16] (by decide) rfl
              clear hP1 hD1 hFc hk1
              generalize H1 = H at hP hS ⊢
              refine lv_aload_n hx hb dL_law_272 rfl (lv_at hl 2 rfl) ?_
              refine lv_aload_n hx hb dL_law_273 rfl (lv_at hl 0 rfl) ?_
              refine lv_iload_n hx hb dL_law_274 rfl (lv_at hl 3 rfl) ?_
              refine lv_iconst (v := 1) hx hb dL_law_275 (by decide) ?_
              refine lv_iadd hx hb dL_law_276 ?_
              refine lv_cv (nI_add (4 * j) 1) ?_
              refine wa_sld hx hb hX hbl hbA hS (4 * j + 1) rfl (by omega) (by omega) dL_law_277 ?_
              refine lv_aload_n hx hb dL_law_278 rfl (lv_at hl 0 rfl) ?_
              refine lv_iload_n hx hb dL_law_279 rfl (lv_at hl 3 rfl) ?_
              refine lv_iconst (v := 2) hx hb dL_law_280 (by decide) ?_
              refine lv_iadd hx hb dL_law_281 ?_
              refine lv_cv (nI_add (4 * j) 2) ?_
              refine wa_sld hx hb hX hbl hbA hS (4 * j + 2) rfl (by omega) (by omega) dL_law_282 ?_
              have hPc := hP.sub (ws' := (wM g cG (nI n) hdm fim unm on may asd tx (nI len) kp ko ka tr patm pfrm rhdm rifm rulm prrm prmm rdm bbm nwm otm evm odm)) [13, 14, 15, 16, 17, 18, 19, 20, 21, 22, 23, 24, 25, 26, 27, 28, 29] rfl
              have hDc := hD.sub (ws' := (wM g cG (nI n) hdm fim unm on may asd tx (nI len) kp ko ka tr patm pfrm rhdm rifm rulm prrm prmm rdm bbm nwm otm evm odm)) [13, 14, 15, 16, 17, 18, 19, 20, 21, 22, 23, 24, 25, 26, 27, 28, 29] (by decide) rfl
              have hKc := hK.sub (tys' := (tM g cG)) [9, 10, 11, 12, 13, 14, 15, 16, 17, 18, 19, 20, 21, 22, 23, 24] rfl
              have hFc := va_free (wc := (wM g cG (nI n) hdm fim unm on may asd tx (nI len) kp ko ka tr patm pfrm rhdm rifm rulm prrm prmm rdm bbm nwm otm evm odm)) hD hS hA [13, 14, 15, 16, 17, 18, 19, 20, 21, 22, 23, 24, 25, 26, 27, 28, 29] rfl
              refine rw_i (D := D) (wc := (wM g cG (nI n) hdm fim unm on may asd tx (nI len) kp ko ka tr patm pfrm rhdm rifm rulm prrm prmm rdm bbm nwm otm evm odm)) (va_runV (As := [.int (xs (4 * j + 1)), .int (xs (4 * j + 2))]) (rest := [.int rv_104]) ⟨hx, hb, hml, hown, hts⟩ (c_X3_turn l D g cG n hdm fim unm on may asd tx (nI len) kp ko ka tr patm pfrm rhdm rifm rulm prrm prmm rdm bbm nwm otm evm odm (xs (4 * j + 1)) (xs (4 * j + 2)) hR.hn _) (cwV 2 hts gL_law_X3_turn rfl rfl rfl (by decide +kernel) ⟨Nat.le_of_ble_eq_true rfl, Nat.le_of_ble_eq_true rfl⟩) ⟨cPre.blind, va_recv hKc hPc (ci := 3) (q0 := 0) rfl rfl, cPre.mk hPc hKc hDc hN⟩ rfl rfl hl.1 rfl (lv_room (Nat.le_of_ble_eq_true rfl)) dL_law_283 ⟨Nat.le_of_ble_eq_true rfl, Nat.le_of_ble_eq_true rfl⟩) hS hFc (fun rv_107 u H1 locs hw_108 hP1 hD1 hk1 hS => ?_)
              obtain ⟨onmv_106, rfl⟩ : ∃ y, y = u := ⟨_, rfl⟩
              try dsimp only at hw_108
              obtain ⟨hP2, hD2⟩ := va_join (wr := [((h 0), .inr (2, [.ref (h 1), .ref (h 3), .ref (h 7), .int onv_103, .int asd, .ref (h 11), .ref (h 12), .int kept, .long tr])), ((h 1), .inr (1, [.ref (h 2), .int (nI len), .int pl, .int tk, .int tp])), ((h 2), .inl ((cA 2), 300, .inl by_)), ((h 3), .inr (0, [.int (nI n), .int may, .ref (h 4), .ref (h 5), .ref (h 6)])), ((h 4), .inl ((cA 4), 10, .inl hd)), ((h 5), .inl ((cA 5), 10, .inl fi)), ((h 6), .inl ((cA 6), 10, .inl un)), ((h 7), .inr (0, [.int (nI n2), .int may2, .ref (h 8), .ref (h 9), .ref (h 10)])), ((h 8), .inl ((cA 8), 10, .inl hd2)), ((h 9), .inl ((cA 9), 10, .inl fi2)), ((h 10), .inl ((cA 10), 10, .inl un2)), ((h 11), .inl ((cA 11), 2, .inl io)), ((h 12), .inl ((cA 12), 2, .inl ia))]) (w1 := (wM g cG (nI n) hdm fim unm onmv_106 may asd tx (nI len) kp ko ka tr patm pfrm rhdm rifm rulm prrm prmm rdm bbm nwm otm evm odm)) hP hD [13, 14, 15, 16, 17, 18, 19, 20, 21, 22, 23, 24, 25, 26, 27, 28, 29] [0, 1, 2, 3, 4, 5, 6, 7, 8, 9, 10, 11, 12] rfl rfl (by decide) (by decide) hk1 hFc hP1 hD1
              have hP := hP2.sub (ws' := (wLw h cA g cG by_ (nI len) pl tk tp (nI n) may hd fi un (nI n2) may2 hd2 fi2 un2 onv_103 asd io ia kept tr (nI n) hdm fim unm onmv_106 may asd tx (nI len) kp ko ka tr patm pfrm rhdm rifm rulm prrm prmm rdm bbm nwm otm evm odm)) [0, 1, 2, 3, 4, 5, 6, 7, 8, 9, 10, 11, 12, 13, 14, 15, 16, 17, 18, 19, 20, 21, 22, 23, 24, 25, 26, 27, 28, 29] rfl
              have hD := hD2.sub (ws' := (wLw h cA g cG by_ (nI len) pl tk tp (nI n) may hd fi un (nI n2) may2 hd2 fi2 un2 onv_103 asd io ia kept tr (nI n) hdm fim unm onmv_106 may asd tx (nI len) kp ko ka tr patm pfrm rhdm rifm rulm prrm prmm rdm bbm nwm otm evm odm)) [0, 1, 2, 3, 4, 5, 6, 7, 8, 9, 10, 11, 12, 13, 14, 15, 16, 17, 18, 19, 20, 21, 22, 23, 24, 25, 26, 27, 28, 29] (by decide) rfl
              clear hP1 hD1 hFc hk1
              generalize H1 = H at hP hS ⊢
              obtain ⟨eq_109, eq_110, hR_111⟩ := q_turn hR hw_105 hw_108
              subst eq_110
              refine lv_icmp_eq (tgt := 703) hx hb dL_law_286 (by decide) (fun _ => ?_) (fun hh => absurd eq_109 hh)
              refine lv_iinc (v := nI (4 * (j + 1))) (lv' := [(3, .int (nI (4 * (j + 1)))), (0, .ref b), (1, .ref (h 0)), (2, .ref (g 0))]) hx hb dL_law_703 hl (k := 3) rfl (inc4 j) (by decide) rfl (fun ls hl => ?_)
              refine lv_goto (tgt := 18) hx hb dL_law_706 (by decide) ?_
              exact ih (j + 1) (by omega) h cA g cG n len n2 by_ pl tk tp may hd fi un may2 hd2 fi2 un2 onv_103 asd io ia kept tr hdm fim unm tx kp ko ka patm pfrm rhdm rifm rulm prrm prmm rdm bbm nwm otm evm odm hR_111 _ _ hK hP hD hS _ (lv_sub hl [1, 2, 3, 0] rfl)
            · by_cases k_32_112 : ((xs (4 * j)) &&& 31) = 5
              · refine lv_tableIn (tgt := 291) hx hb dL_law_32 (by rw [k_32_112]; decide) (by rw [k_32_112]; decide) (by rw [k_32_112]; rfl) (by decide) ?_
                refine lv_aload_n hx hb dL_law_291 rfl (lv_at hl 1 rfl) ?_
                refine lv_aload_n hx hb dL_law_292 rfl (lv_at hl 0 rfl) ?_
                refine lv_iload_n hx hb dL_law_293 rfl (lv_at hl 3 rfl) ?_
                refine lv_iconst (v := 1) hx hb dL_law_294 (by decide) ?_
                refine lv_iadd hx hb dL_law_295 ?_
                refine lv_cv (nI_add (4 * j) 1) ?_
                refine wa_sld hx hb hX hbl hbA hS (4 * j + 1) rfl (by omega) (by omega) dL_law_296 ?_
                refine lv_aload_n hx hb dL_law_297 rfl (lv_at hl 0 rfl) ?_
                refine lv_iload_n hx hb dL_law_298 rfl (lv_at hl 3 rfl) ?_
                refine lv_iconst (v := 2) hx hb dL_law_299 (by decide) ?_
                refine lv_iadd hx hb dL_law_300 ?_
                refine lv_cv (nI_add (4 * j) 2) ?_
                refine wa_sld hx hb hX hbl hbA hS (4 * j + 2) rfl (by omega) (by omega) dL_law_301 ?_
                have hPc := hP.sub (ws' := (wX h cA by_ (nI len) pl tk tp (nI n) may hd fi un (nI n2) may2 hd2 fi2 un2 on asd io ia kept tr)) [0, 1, 2, 3, 4, 5, 6, 7, 8, 9, 10, 11, 12] rfl
                have hDc := hD.sub (ws' := (wX h cA by_ (nI len) pl tk tp (nI n) may hd fi un (nI n2) may2 hd2 fi2 un2 on asd io ia kept tr)) [0, 1, 2, 3, 4, 5, 6, 7, 8, 9, 10, 11, 12] (by decide) rfl
                have hKc := hK.sub (tys' := (tX h cA)) [0, 1, 2, 3, 4, 5, 6, 7, 8] rfl
                have hFc := va_free (wc := (wX h cA by_ (nI len) pl tk tp (nI n) may hd fi un (nI n2) may2 hd2 fi2 un2 on asd io ia kept tr)) hD hS hA [0, 1, 2, 3, 4, 5, 6, 7, 8, 9, 10, 11, 12] rfl
                refine rw_i (D := D) (wc := (wX h cA by_ (nI len) pl tk tp (nI n) may hd fi un (nI n2) may2 hd2 fi2 un2 on asd io ia kept tr)) (va_runV (As := [.int (xs (4 * j + 1)), .int (xs (4 * j + 2))]) (rest := []) ⟨hx, hb, hml, hown, hts⟩ (c_X2_assume l D h cA n by_ (nI len) pl tk tp may hd fi un (nI n2) may2 hd2 fi2 un2 on asd io ia kept tr (xs (4 * j + 1)) (xs (4 * j + 2)) hR.hn _) (cwV 2 hts gL_law_X2_assume rfl rfl rfl (by decide +kernel) ⟨Nat.le_of_ble_eq_true rfl, Nat.le_of_ble_eq_true rfl⟩) ⟨cPre.blind, va_recv hKc hPc (ci := 2) (q0 := 0) rfl rfl, cPre.mk hPc hKc hDc hN⟩ rfl rfl hl.1 rfl (lv_room (Nat.le_of_ble_eq_true rfl)) dL_law_302 ⟨Nat.le_of_ble_eq_true rfl, Nat.le_of_ble_eq_true rfl⟩) hS hFc (fun rv_114 u H1 locs hw_115 hP1 hD1 hk1 hS => ?_)
                obtain ⟨asdv_113, rfl⟩ : ∃ y, y = u := ⟨_, rfl⟩
                try dsimp only at hw_115
                obtain ⟨hP2, hD2⟩ := va_join (wr := [((g 0), .inr (3, [.int (nI n), .ref (g 1), .ref (g 2), .ref (g 3), .int on, .int may, .int asd, .ref (g 4), .int (nI len), .ref (g 5), .ref (g 6), .ref (g 7), .long tr, .int patm, .int pfrm, .ref (g 8), .ref (g 9), .ref (g 10), .int prrm, .int prmm, .ref (g 11), .ref (g 12), .ref (g 13), .ref (g 14), .ref (g 15), .ref (g 16)])), ((g 1), .inl ((cG 1), 10, .inl hdm)), ((g 2), .inl ((cG 2), 10, .inl fim)), ((g 3), .inl ((cG 3), 10, .inl unm)), ((g 4), .inl ((cG 4), 300, .inl tx)), ((g 5), .inl ((cG 5), 2, .inl kp)), ((g 6), .inl ((cG 6), 2, .inl ko)), ((g 7), .inl ((cG 7), 2, .inl ka)), ((g 8), .inl ((cG 8), 10, .inl rhdm)), ((g 9), .inl ((cG 9), 10, .inl rifm)), ((g 10), .inl ((cG 10), 10, .inl rulm)), ((g 11), .inl ((cG 11), 8, .inl rdm)), ((g 12), .inl ((cG 12), 8, .inl bbm)), ((g 13), .inl ((cG 13), 8, .inl nwm)), ((g 14), .inl ((cG 14), 8, .inl otm)), ((g 15), .inl ((cG 15), 8, .inl evm)), ((g 16), .inl ((cG 16), 8, .inl odm))]) (w1 := (wX h cA by_ (nI len) pl tk tp (nI n) may hd fi un (nI n2) may2 hd2 fi2 un2 on asdv_113 io ia kept tr)) hP hD [0, 1, 2, 3, 4, 5, 6, 7, 8, 9, 10, 11, 12] [13, 14, 15, 16, 17, 18, 19, 20, 21, 22, 23, 24, 25, 26, 27, 28, 29] rfl rfl (by decide) (by decide) hk1 hFc hP1 hD1
                have hP := hP2.sub (ws' := (wLw h cA g cG by_ (nI len) pl tk tp (nI n) may hd fi un (nI n2) may2 hd2 fi2 un2 on asdv_113 io ia kept tr (nI n) hdm fim unm on may asd tx (nI len) kp ko ka tr patm pfrm rhdm rifm rulm prrm prmm rdm bbm nwm otm evm odm)) [17, 18, 19, 20, 21, 22, 23, 24, 25, 26, 27, 28, 29, 0, 1, 2, 3, 4, 5, 6, 7, 8, 9, 10, 11, 12, 13, 14, 15, 16] rfl
                have hD := hD2.sub (ws' := (wLw h cA g cG by_ (nI len) pl tk tp (nI n) may hd fi un (nI n2) may2 hd2 fi2 un2 on asdv_113 io ia kept tr (nI n) hdm fim unm on may asd tx (nI len) kp ko ka tr patm pfrm rhdm rifm rulm prrm prmm rdm bbm nwm otm evm odm)) [17, 18, 19, 20, 21, 22, 23, 24, 25, 26, 27, 28, 29, 0, 1, 2, 3, 4, 5, 6, 7, 8, 9, 10, 11, 12, 13, 14, 15, 16] (by decide) rfl
                clear hP1 hD1 hFc hk1
                generalize H1 = H at hP hS ⊢
                refine lv_aload_n hx hb dL_law_305 rfl (lv_at hl 2 rfl) ?_
                refine lv_aload_n hx hb dL_law_306 rfl (lv_at hl 0 rfl) ?_
                refine lv_iload_n hx hb dL_law_307 rfl (lv_at hl 3 rfl) ?_
                refine lv_iconst (v := 1) hx hb dL_law_308 (by decide) ?_
                refine lv_iadd hx hb dL_law_309 ?_
                refine lv_cv (nI_add (4 * j) 1) ?_
                refine wa_sld hx hb hX hbl hbA hS (4 * j + 1) rfl (by omega) (by omega) dL_law_310 ?_
                refine lv_aload_n hx hb dL_law_311 rfl (lv_at hl 0 rfl) ?_
                refine lv_iload_n hx hb dL_law_312 rfl (lv_at hl 3 rfl) ?_
                refine lv_iconst (v := 2) hx hb dL_law_313 (by decide) ?_
                refine lv_iadd hx hb dL_law_314 ?_
                refine lv_cv (nI_add (4 * j) 2) ?_
                refine wa_sld hx hb hX hbl hbA hS (4 * j + 2) rfl (by omega) (by omega) dL_law_315 ?_
                have hPc := hP.sub (ws' := (wM g cG (nI n) hdm fim unm on may asd tx (nI len) kp ko ka tr patm pfrm rhdm rifm rulm prrm prmm rdm bbm nwm otm evm odm)) [13, 14, 15, 16, 17, 18, 19, 20, 21, 22, 23, 24, 25, 26, 27, 28, 29] rfl
                have hDc := hD.sub (ws' := (wM g cG (nI n) hdm fim unm on may asd tx (nI len) kp ko ka tr patm pfrm rhdm rifm rulm prrm prmm rdm bbm nwm otm evm odm)) [13, 14, 15, 16, 17, 18, 19, 20, 21, 22, 23, 24, 25, 26, 27, 28, 29] (by decide) rfl
                have hKc := hK.sub (tys' := (tM g cG)) [9, 10, 11, 12, 13, 14, 15, 16, 17, 18, 19, 20, 21, 22, 23, 24] rfl
                have hFc := va_free (wc := (wM g cG (nI n) hdm fim unm on may asd tx (nI len) kp ko ka tr patm pfrm rhdm rifm rulm prrm prmm rdm bbm nwm otm evm odm)) hD hS hA [13, 14, 15, 16, 17, 18, 19, 20, 21, 22, 23, 24, 25, 26, 27, 28, 29] rfl
                refine rw_i (D := D) (wc := (wM g cG (nI n) hdm fim unm on may asd tx (nI len) kp ko ka tr patm pfrm rhdm rifm rulm prrm prmm rdm bbm nwm otm evm odm)) (va_runV (As := [.int (xs (4 * j + 1)), .int (xs (4 * j + 2))]) (rest := [.int rv_114]) ⟨hx, hb, hml, hown, hts⟩ (c_X3_assume l D g cG n hdm fim unm on may asd tx (nI len) kp ko ka tr patm pfrm rhdm rifm rulm prrm prmm rdm bbm nwm otm evm odm (xs (4 * j + 1)) (xs (4 * j + 2)) hR.hn _) (cwV 2 hts gL_law_X3_assume rfl rfl rfl (by decide +kernel) ⟨Nat.le_of_ble_eq_true rfl, Nat.le_of_ble_eq_true rfl⟩) ⟨cPre.blind, va_recv hKc hPc (ci := 3) (q0 := 0) rfl rfl, cPre.mk hPc hKc hDc hN⟩ rfl rfl hl.1 rfl (lv_room (Nat.le_of_ble_eq_true rfl)) dL_law_316 ⟨Nat.le_of_ble_eq_true rfl, Nat.le_of_ble_eq_true rfl⟩) hS hFc (fun rv_117 u H1 locs hw_118 hP1 hD1 hk1 hS => ?_)
                obtain ⟨asdmv_116, rfl⟩ : ∃ y, y = u := ⟨_, rfl⟩
                try dsimp only at hw_118
                obtain ⟨hP2, hD2⟩ := va_join (wr := [((h 0), .inr (2, [.ref (h 1), .ref (h 3), .ref (h 7), .int on, .int asdv_113, .ref (h 11), .ref (h 12), .int kept, .long tr])), ((h 1), .inr (1, [.ref (h 2), .int (nI len), .int pl, .int tk, .int tp])), ((h 2), .inl ((cA 2), 300, .inl by_)), ((h 3), .inr (0, [.int (nI n), .int may, .ref (h 4), .ref (h 5), .ref (h 6)])), ((h 4), .inl ((cA 4), 10, .inl hd)), ((h 5), .inl ((cA 5), 10, .inl fi)), ((h 6), .inl ((cA 6), 10, .inl un)), ((h 7), .inr (0, [.int (nI n2), .int may2, .ref (h 8), .ref (h 9), .ref (h 10)])), ((h 8), .inl ((cA 8), 10, .inl hd2)), ((h 9), .inl ((cA 9), 10, .inl fi2)), ((h 10), .inl ((cA 10), 10, .inl un2)), ((h 11), .inl ((cA 11), 2, .inl io)), ((h 12), .inl ((cA 12), 2, .inl ia))]) (w1 := (wM g cG (nI n) hdm fim unm on may asdmv_116 tx (nI len) kp ko ka tr patm pfrm rhdm rifm rulm prrm prmm rdm bbm nwm otm evm odm)) hP hD [13, 14, 15, 16, 17, 18, 19, 20, 21, 22, 23, 24, 25, 26, 27, 28, 29] [0, 1, 2, 3, 4, 5, 6, 7, 8, 9, 10, 11, 12] rfl rfl (by decide) (by decide) hk1 hFc hP1 hD1
                have hP := hP2.sub (ws' := (wLw h cA g cG by_ (nI len) pl tk tp (nI n) may hd fi un (nI n2) may2 hd2 fi2 un2 on asdv_113 io ia kept tr (nI n) hdm fim unm on may asdmv_116 tx (nI len) kp ko ka tr patm pfrm rhdm rifm rulm prrm prmm rdm bbm nwm otm evm odm)) [0, 1, 2, 3, 4, 5, 6, 7, 8, 9, 10, 11, 12, 13, 14, 15, 16, 17, 18, 19, 20, 21, 22, 23, 24, 25, 26, 27, 28, 29] rfl
                have hD := hD2.sub (ws' := (wLw h cA g cG by_ (nI len) pl tk tp (nI n) may hd fi un (nI n2) may2 hd2 fi2 un2 on asdv_113 io ia kept tr (nI n) hdm fim unm on may asdmv_116 tx (nI len) kp ko ka tr patm pfrm rhdm rifm rulm prrm prmm rdm bbm nwm otm evm odm)) [0, 1, 2, 3, 4, 5, 6, 7, 8, 9, 10, 11, 12, 13, 14, 15, 16, 17, 18, 19, 20, 21, 22, 23, 24, 25, 26, 27, 28, 29] (by decide) rfl
                clear hP1 hD1 hFc hk1
                generalize H1 = H at hP hS ⊢
                obtain ⟨eq_119, eq_120, hR_121⟩ := q_assume hR hw_115 hw_118
                subst eq_120
                refine lv_icmp_eq (tgt := 703) hx hb dL_law_319 (by decide) (fun _ => ?_) (fun hh => absurd eq_119 hh)
                refine lv_iinc (v := nI (4 * (j + 1))) (lv' := [(3, .int (nI (4 * (j + 1)))), (0, .ref b), (1, .ref (h 0)), (2, .ref (g 0))]) hx hb dL_law_703 hl (k := 3) rfl (inc4 j) (by decide) rfl (fun ls hl => ?_)
                refine lv_goto (tgt := 18) hx hb dL_law_706 (by decide) ?_
                exact ih (j + 1) (by omega) h cA g cG n len n2 by_ pl tk tp may hd fi un may2 hd2 fi2 un2 on asdv_113 io ia kept tr hdm fim unm tx kp ko ka patm pfrm rhdm rifm rulm prrm prmm rdm bbm nwm otm evm odm hR_121 _ _ hK hP hD hS _ (lv_sub hl [1, 2, 3, 0] rfl)
              · by_cases k_32_122 : ((xs (4 * j)) &&& 31) = 6
                · refine lv_tableIn (tgt := 324) hx hb dL_law_32 (by rw [k_32_122]; decide) (by rw [k_32_122]; decide) (by rw [k_32_122]; rfl) (by decide) ?_
                  refine lv_aload_n hx hb dL_law_324 rfl (lv_at hl 1 rfl) ?_
                  have hPc := hP.sub (ws' := (wX h cA by_ (nI len) pl tk tp (nI n) may hd fi un (nI n2) may2 hd2 fi2 un2 on asd io ia kept tr)) [0, 1, 2, 3, 4, 5, 6, 7, 8, 9, 10, 11, 12] rfl
                  have hDc := hD.sub (ws' := (wX h cA by_ (nI len) pl tk tp (nI n) may hd fi un (nI n2) may2 hd2 fi2 un2 on asd io ia kept tr)) [0, 1, 2, 3, 4, 5, 6, 7, 8, 9, 10, 11, 12] (by decide) rfl
                  have hKc := hK.sub (tys' := (tX h cA)) [0, 1, 2, 3, 4, 5, 6, 7, 8] rfl
                  refine ro_i (D := D) (va_runV (As := []) (rest := []) ⟨hx, hb, hml, hown, hts⟩ (c_X2_sets l D h cA n by_ (nI len) pl tk tp may hd fi un (nI n2) may2 hd2 fi2 un2 on asd io ia kept tr hR.hn _) (cwV 0 hts gL_law_X2_sets rfl rfl rfl (by decide +kernel) ⟨Nat.le_of_ble_eq_true rfl, Nat.le_of_ble_eq_true rfl⟩) ⟨cPre.blind, va_recv hKc hPc (ci := 2) (q0 := 0) rfl rfl, cPre.mk hPc hKc hDc hN⟩ rfl rfl hl.1 rfl (lv_room (Nat.le_of_ble_eq_true rfl)) dL_law_325 ⟨Nat.le_of_ble_eq_true rfl, Nat.le_of_ble_eq_true rfl⟩) hS hA (fun H locs hkp0 hS => ?_)
                  replace hP := hkp0 _ hP
                  refine lv_aload_n hx hb dL_law_328 rfl (lv_at hl 2 rfl) ?_
                  have hPc := hP.sub (ws' := (wM g cG (nI n) hdm fim unm on may asd tx (nI len) kp ko ka tr patm pfrm rhdm rifm rulm prrm prmm rdm bbm nwm otm evm odm)) [13, 14, 15, 16, 17, 18, 19, 20, 21, 22, 23, 24, 25, 26, 27, 28, 29] rfl
                  have hDc := hD.sub (ws' := (wM g cG (nI n) hdm fim unm on may asd tx (nI len) kp ko ka tr patm pfrm rhdm rifm rulm prrm prmm rdm bbm nwm otm evm odm)) [13, 14, 15, 16, 17, 18, 19, 20, 21, 22, 23, 24, 25, 26, 27, 28, 29] (by decide) rfl
                  have hKc := hK.sub (tys' := (tM g cG)) [9, 10, 11, 12, 13, 14, 15, 16, 17, 18, 19, 20, 21, 22, 23, 24] rfl
                  have hFc := va_free (wc := (wM g cG (nI n) hdm fim unm on may asd tx (nI len) kp ko ka tr patm pfrm rhdm rifm rulm prrm prmm rdm bbm nwm otm evm odm)) hD hS hA [13, 14, 15, 16, 17, 18, 19, 20, 21, 22, 23, 24, 25, 26, 27, 28, 29] rfl
                  refine rw_i (D := D) (wc := (wM g cG (nI n) hdm fim unm on may asd tx (nI len) kp ko ka tr patm pfrm rhdm rifm rulm prrm prmm rdm bbm nwm otm evm odm)) (va_runV (As := []) (rest := [.int (s_X2_sets n may hd fi un on asd)]) ⟨hx, hb, hml, hown, hts⟩ (c_X3_sets l D g cG n hdm fim unm on may asd tx (nI len) kp ko ka tr patm pfrm rhdm rifm rulm prrm prmm rdm bbm nwm otm evm odm hR.hn hR.hhd _) (cwV 0 hts gL_law_X3_sets rfl rfl rfl (by decide +kernel) ⟨Nat.le_of_ble_eq_true rfl, Nat.le_of_ble_eq_true rfl⟩) ⟨cPre.blind, va_recv hKc hPc (ci := 3) (q0 := 0) rfl rfl, cPre.mk hPc hKc hDc hN⟩ rfl rfl hl.1 rfl (lv_room (Nat.le_of_ble_eq_true rfl)) dL_law_329 ⟨Nat.le_of_ble_eq_true rfl, Nat.le_of_ble_eq_true rfl⟩) hS hFc (fun rv_126 u H1 locs hw_127 hP1 hD1 hk1 hS => ?_)
                  obtain ⟨rdmv_123, bbmv_124, nwmv_125⟩ := u
                  try dsimp only at hw_127
                  obtain ⟨hP2, hD2⟩ := va_join (wr := [((h 0), .inr (2, [.ref (h 1), .ref (h 3), .ref (h 7), .int on, .int asd, .ref (h 11), .ref (h 12), .int kept, .long tr])), ((h 1), .inr (1, [.ref (h 2), .int (nI len), .int pl, .int tk, .int tp])), ((h 2), .inl ((cA 2), 300, .inl by_)), ((h 3), .inr (0, [.int (nI n), .int may, .ref (h 4), .ref (h 5), .ref (h 6)])), ((h 4), .inl ((cA 4), 10, .inl hd)), ((h 5), .inl ((cA 5), 10, .inl fi)), ((h 6), .inl ((cA 6), 10, .inl un)), ((h 7), .inr (0, [.int (nI n2), .int may2, .ref (h 8), .ref (h 9), .ref (h 10)])), ((h 8), .inl ((cA 8), 10, .inl hd2)), ((h 9), .inl ((cA 9), 10, .inl fi2)), ((h 10), .inl ((cA 10), 10, .inl un2)), ((h 11), .inl ((cA 11), 2, .inl io)), ((h 12), .inl ((cA 12), 2, .inl ia))]) (w1 := (wM g cG (nI n) hdm fim unm on may asd tx (nI len) kp ko ka tr patm pfrm rhdm rifm rulm prrm prmm rdmv_123 bbmv_124 nwmv_125 otm evm odm)) hP hD [13, 14, 15, 16, 17, 18, 19, 20, 21, 22, 23, 24, 25, 26, 27, 28, 29] [0, 1, 2, 3, 4, 5, 6, 7, 8, 9, 10, 11, 12] rfl rfl (by decide) (by decide) hk1 hFc hP1 hD1
                  have hP := hP2.sub (ws' := (wLw h cA g cG by_ (nI len) pl tk tp (nI n) may hd fi un (nI n2) may2 hd2 fi2 un2 on asd io ia kept tr (nI n) hdm fim unm on may asd tx (nI len) kp ko ka tr patm pfrm rhdm rifm rulm prrm prmm rdmv_123 bbmv_124 nwmv_125 otm evm odm)) [0, 1, 2, 3, 4, 5, 6, 7, 8, 9, 10, 11, 12, 13, 14, 15, 16, 17, 18, 19, 20, 21, 22, 23, 24, 25, 26, 27, 28, 29] rfl
                  have hD := hD2.sub (ws' := (wLw h cA g cG by_ (nI len) pl tk tp (nI n) may hd fi un (nI n2) may2 hd2 fi2 un2 on asd io ia kept tr (nI n) hdm fim unm on may asd tx (nI len) kp ko ka tr patm pfrm rhdm rifm rulm prrm prmm rdmv_123 bbmv_124 nwmv_125 otm evm odm)) [0, 1, 2, 3, 4, 5, 6, 7, 8, 9, 10, 11, 12, 13, 14, 15, 16, 17, 18, 19, 20, 21, 22, 23, 24, 25, 26, 27, 28, 29] (by decide) rfl
                  clear hP1 hD1 hFc hk1
                  generalize H1 = H at hP hS ⊢
                  refine lv_icmp_eq (tgt := 703) hx hb dL_law_332 (by decide) (fun _ => ?_) (fun hh => absurd ((q_sets hR nwm ).trans hw_127.symm) hh)
                  refine lv_iinc (v := nI (4 * (j + 1))) (lv' := [(3, .int (nI (4 * (j + 1)))), (0, .ref b), (1, .ref (h 0)), (2, .ref (g 0))]) hx hb dL_law_703 hl (k := 3) rfl (inc4 j) (by decide) rfl (fun ls hl => ?_)
                  refine lv_goto (tgt := 18) hx hb dL_law_706 (by decide) ?_
                  exact ih (j + 1) (by omega) h cA g cG n len n2 by_ pl tk tp may hd fi un may2 hd2 fi2 un2 on asd io ia kept tr hdm fim unm tx kp ko ka patm pfrm rhdm rifm rulm prrm prmm rdmv_123 bbmv_124 nwmv_125 otm evm odm hR _ _ hK hP hD hS _ (lv_sub hl [1, 2, 3, 0] rfl)
                · by_cases k_32_128 : ((xs (4 * j)) &&& 31) = 7
                  · refine lv_tableIn (tgt := 337) hx hb dL_law_32 (by rw [k_32_128]; decide) (by rw [k_32_128]; decide) (by rw [k_32_128]; rfl) (by decide) ?_
                    refine lv_aload_n hx hb dL_law_337 rfl (lv_at hl 1 rfl) ?_
                    refine lv_aload_n hx hb dL_law_338 rfl (lv_at hl 0 rfl) ?_
                    refine lv_iload_n hx hb dL_law_339 rfl (lv_at hl 3 rfl) ?_
                    refine lv_iconst (v := 1) hx hb dL_law_340 (by decide) ?_
                    refine lv_iadd hx hb dL_law_341 ?_
                    refine lv_cv (nI_add (4 * j) 1) ?_
                    refine wa_sld hx hb hX hbl hbA hS (4 * j + 1) rfl (by omega) (by omega) dL_law_342 ?_
                    have hPc := hP.sub (ws' := (wX h cA by_ (nI len) pl tk tp (nI n) may hd fi un (nI n2) may2 hd2 fi2 un2 on asd io ia kept tr)) [0, 1, 2, 3, 4, 5, 6, 7, 8, 9, 10, 11, 12] rfl
                    have hDc := hD.sub (ws' := (wX h cA by_ (nI len) pl tk tp (nI n) may hd fi un (nI n2) may2 hd2 fi2 un2 on asd io ia kept tr)) [0, 1, 2, 3, 4, 5, 6, 7, 8, 9, 10, 11, 12] (by decide) rfl
                    have hKc := hK.sub (tys' := (tX h cA)) [0, 1, 2, 3, 4, 5, 6, 7, 8] rfl
                    refine ro_i (D := D) (va_runV (As := [.int (xs (4 * j + 1))]) (rest := []) ⟨hx, hb, hml, hown, hts⟩ (c_X2_set l D h cA n by_ (nI len) pl tk tp may hd fi un (nI n2) may2 hd2 fi2 un2 on asd io ia kept tr (xs (4 * j + 1)) hR.hn _) (cwV 1 hts gL_law_X2_set rfl rfl rfl (by decide +kernel) ⟨Nat.le_of_ble_eq_true rfl, Nat.le_of_ble_eq_true rfl⟩) ⟨cPre.blind, va_recv hKc hPc (ci := 2) (q0 := 0) rfl rfl, cPre.mk hPc hKc hDc hN⟩ rfl rfl hl.1 rfl (lv_room (Nat.le_of_ble_eq_true rfl)) dL_law_343 ⟨Nat.le_of_ble_eq_true rfl, Nat.le_of_ble_eq_true rfl⟩) hS hA (fun H locs hkp0 hS => ?_)
                    replace hP := hkp0 _ hP
                    refine lv_aload_n hx hb dL_law_346 rfl (lv_at hl 2 rfl) ?_
                    refine lv_aload_n hx hb dL_law_347 rfl (lv_at hl 0 rfl) ?_
                    refine lv_iload_n hx hb dL_law_348 rfl (lv_at hl 3 rfl) ?_
                    refine lv_iconst (v := 1) hx hb dL_law_349 (by decide) ?_
                    refine lv_iadd hx hb dL_law_350 ?_
                    refine lv_cv (nI_add (4 * j) 1) ?_
                    refine wa_sld hx hb hX hbl hbA hS (4 * j + 1) rfl (by omega) (by omega) dL_law_351 ?_
                    have hPc := hP.sub (ws' := (wM g cG (nI n) hdm fim unm on may asd tx (nI len) kp ko ka tr patm pfrm rhdm rifm rulm prrm prmm rdm bbm nwm otm evm odm)) [13, 14, 15, 16, 17, 18, 19, 20, 21, 22, 23, 24, 25, 26, 27, 28, 29] rfl
                    have hDc := hD.sub (ws' := (wM g cG (nI n) hdm fim unm on may asd tx (nI len) kp ko ka tr patm pfrm rhdm rifm rulm prrm prmm rdm bbm nwm otm evm odm)) [13, 14, 15, 16, 17, 18, 19, 20, 21, 22, 23, 24, 25, 26, 27, 28, 29] (by decide) rfl
                    have hKc := hK.sub (tys' := (tM g cG)) [9, 10, 11, 12, 13, 14, 15, 16, 17, 18, 19, 20, 21, 22, 23, 24] rfl
                    have hFc := va_free (wc := (wM g cG (nI n) hdm fim unm on may asd tx (nI len) kp ko ka tr patm pfrm rhdm rifm rulm prrm prmm rdm bbm nwm otm evm odm)) hD hS hA [13, 14, 15, 16, 17, 18, 19, 20, 21, 22, 23, 24, 25, 26, 27, 28, 29] rfl
                    refine rw_i (D := D) (wc := (wM g cG (nI n) hdm fim unm on may asd tx (nI len) kp ko ka tr patm pfrm rhdm rifm rulm prrm prmm rdm bbm nwm otm evm odm)) (va_runV (As := [.int (xs (4 * j + 1))]) (rest := [.int (s_X2_set n may hd fi un on asd (xs (4 * j + 1)))]) ⟨hx, hb, hml, hown, hts⟩ (c_X3_set l D g cG n hdm fim unm on may asd tx (nI len) kp ko ka tr patm pfrm rhdm rifm rulm prrm prmm rdm bbm nwm otm evm odm (xs (4 * j + 1)) hR.hn hR.hhd _) (cwV 1 hts gL_law_X3_set rfl rfl rfl (by decide +kernel) ⟨Nat.le_of_ble_eq_true rfl, Nat.le_of_ble_eq_true rfl⟩) ⟨cPre.blind, va_recv hKc hPc (ci := 3) (q0 := 0) rfl rfl, cPre.mk hPc hKc hDc hN⟩ rfl rfl hl.1 rfl (lv_room (Nat.le_of_ble_eq_true rfl)) dL_law_352 ⟨Nat.le_of_ble_eq_true rfl, Nat.le_of_ble_eq_true rfl⟩) hS hFc (fun rv_132 u H1 locs hw_133 hP1 hD1 hk1 hS => ?_)
                    obtain ⟨rdmv_129, bbmv_130, nwmv_131⟩ := u
                    try dsimp only at hw_133
                    obtain ⟨hP2, hD2⟩ := va_join (wr := [((h 0), .inr (2, [.ref (h 1), .ref (h 3), .ref (h 7), .int on, .int asd, .ref (h 11), .ref (h 12), .int kept, .long tr])), ((h 1), .inr (1, [.ref (h 2), .int (nI len), .int pl, .int tk, .int tp])), ((h 2), .inl ((cA 2), 300, .inl by_)), ((h 3), .inr (0, [.int (nI n), .int may, .ref (h 4), .ref (h 5), .ref (h 6)])), ((h 4), .inl ((cA 4), 10, .inl hd)), ((h 5), .inl ((cA 5), 10, .inl fi)), ((h 6), .inl ((cA 6), 10, .inl un)), ((h 7), .inr (0, [.int (nI n2), .int may2, .ref (h 8), .ref (h 9), .ref (h 10)])), ((h 8), .inl ((cA 8), 10, .inl hd2)), ((h 9), .inl ((cA 9), 10, .inl fi2)), ((h 10), .inl ((cA 10), 10, .inl un2)), ((h 11), .inl ((cA 11), 2, .inl io)), ((h 12), .inl ((cA 12), 2, .inl ia))]) (w1 := (wM g cG (nI n) hdm fim unm on may asd tx (nI len) kp ko ka tr patm pfrm rhdm rifm rulm prrm prmm rdmv_129 bbmv_130 nwmv_131 otm evm odm)) hP hD [13, 14, 15, 16, 17, 18, 19, 20, 21, 22, 23, 24, 25, 26, 27, 28, 29] [0, 1, 2, 3, 4, 5, 6, 7, 8, 9, 10, 11, 12] rfl rfl (by decide) (by decide) hk1 hFc hP1 hD1
                    have hP := hP2.sub (ws' := (wLw h cA g cG by_ (nI len) pl tk tp (nI n) may hd fi un (nI n2) may2 hd2 fi2 un2 on asd io ia kept tr (nI n) hdm fim unm on may asd tx (nI len) kp ko ka tr patm pfrm rhdm rifm rulm prrm prmm rdmv_129 bbmv_130 nwmv_131 otm evm odm)) [0, 1, 2, 3, 4, 5, 6, 7, 8, 9, 10, 11, 12, 13, 14, 15, 16, 17, 18, 19, 20, 21, 22, 23, 24, 25, 26, 27, 28, 29] rfl
                    have hD := hD2.sub (ws' := (wLw h cA g cG by_ (nI len) pl tk tp (nI n) may hd fi un (nI n2) may2 hd2 fi2 un2 on asd io ia kept tr (nI n) hdm fim unm on may asd tx (nI len) kp ko ka tr patm pfrm rhdm rifm rulm prrm prmm rdmv_129 bbmv_130 nwmv_131 otm evm odm)) [0, 1, 2, 3, 4, 5, 6, 7, 8, 9, 10, 11, 12, 13, 14, 15, 16, 17, 18, 19, 20, 21, 22, 23, 24, 25, 26, 27, 28, 29] (by decide) rfl
                    clear hP1 hD1 hFc hk1
                    generalize H1 = H at hP hS ⊢
                    refine lv_icmp_eq (tgt := 703) hx hb dL_law_355 (by decide) (fun _ => ?_) (fun hh => absurd ((q_set hR nwm (xs (4 * j + 1))).trans hw_133.symm) hh)
                    refine lv_iinc (v := nI (4 * (j + 1))) (lv' := [(3, .int (nI (4 * (j + 1)))), (0, .ref b), (1, .ref (h 0)), (2, .ref (g 0))]) hx hb dL_law_703 hl (k := 3) rfl (inc4 j) (by decide) rfl (fun ls hl => ?_)
                    refine lv_goto (tgt := 18) hx hb dL_law_706 (by decide) ?_
                    exact ih (j + 1) (by omega) h cA g cG n len n2 by_ pl tk tp may hd fi un may2 hd2 fi2 un2 on asd io ia kept tr hdm fim unm tx kp ko ka patm pfrm rhdm rifm rulm prrm prmm rdmv_129 bbmv_130 nwmv_131 otm evm odm hR _ _ hK hP hD hS _ (lv_sub hl [1, 2, 3, 0] rfl)
                  · by_cases k_32_134 : ((xs (4 * j)) &&& 31) = 8
                    · refine lv_tableIn (tgt := 360) hx hb dL_law_32 (by rw [k_32_134]; decide) (by rw [k_32_134]; decide) (by rw [k_32_134]; rfl) (by decide) ?_
                      refine lv_aload_n hx hb dL_law_360 rfl (lv_at hl 1 rfl) ?_
                      refine lv_aload_n hx hb dL_law_361 rfl (lv_at hl 0 rfl) ?_
                      refine lv_iload_n hx hb dL_law_362 rfl (lv_at hl 3 rfl) ?_
                      refine lv_iconst (v := 1) hx hb dL_law_363 (by decide) ?_
                      refine lv_iadd hx hb dL_law_364 ?_
                      refine lv_cv (nI_add (4 * j) 1) ?_
                      refine wa_sld hx hb hX hbl hbA hS (4 * j + 1) rfl (by omega) (by omega) dL_law_365 ?_
                      have hPc := hP.sub (ws' := (wX h cA by_ (nI len) pl tk tp (nI n) may hd fi un (nI n2) may2 hd2 fi2 un2 on asd io ia kept tr)) [0, 1, 2, 3, 4, 5, 6, 7, 8, 9, 10, 11, 12] rfl
                      have hDc := hD.sub (ws' := (wX h cA by_ (nI len) pl tk tp (nI n) may hd fi un (nI n2) may2 hd2 fi2 un2 on asd io ia kept tr)) [0, 1, 2, 3, 4, 5, 6, 7, 8, 9, 10, 11, 12] (by decide) rfl
                      have hKc := hK.sub (tys' := (tX h cA)) [0, 1, 2, 3, 4, 5, 6, 7, 8] rfl
                      refine ro_i (D := D) (va_runV (As := [.int (xs (4 * j + 1))]) (rest := []) ⟨hx, hb, hml, hown, hts⟩ (c_X2_stands l D h cA n by_ (nI len) pl tk tp may hd fi un (nI n2) may2 hd2 fi2 un2 on asd io ia kept tr (xs (4 * j + 1)) hR.hn _) (cwV 1 hts gL_law_X2_stands rfl rfl rfl (by decide +kernel) ⟨Nat.le_of_ble_eq_true rfl, Nat.le_of_ble_eq_true rfl⟩) ⟨cPre.blind, va_recv hKc hPc (ci := 2) (q0 := 0) rfl rfl, cPre.mk hPc hKc hDc hN⟩ rfl rfl hl.1 rfl (lv_room (Nat.le_of_ble_eq_true rfl)) dL_law_366 ⟨Nat.le_of_ble_eq_true rfl, Nat.le_of_ble_eq_true rfl⟩) hS hA (fun H locs hkp0 hS => ?_)
                      replace hP := hkp0 _ hP
                      refine lv_aload_n hx hb dL_law_369 rfl (lv_at hl 2 rfl) ?_
                      refine lv_aload_n hx hb dL_law_370 rfl (lv_at hl 0 rfl) ?_
                      refine lv_iload_n hx hb dL_law_371 rfl (lv_at hl 3 rfl) ?_
                      refine lv_iconst (v := 1) hx hb dL_law_372 (by decide) ?_
                      refine lv_iadd hx hb dL_law_373 ?_
                      refine lv_cv (nI_add (4 * j) 1) ?_
                      refine wa_sld hx hb hX hbl hbA hS (4 * j + 1) rfl (by omega) (by omega) dL_law_374 ?_
                      have hPc := hP.sub (ws' := (wM g cG (nI n) hdm fim unm on may asd tx (nI len) kp ko ka tr patm pfrm rhdm rifm rulm prrm prmm rdm bbm nwm otm evm odm)) [13, 14, 15, 16, 17, 18, 19, 20, 21, 22, 23, 24, 25, 26, 27, 28, 29] rfl
                      have hDc := hD.sub (ws' := (wM g cG (nI n) hdm fim unm on may asd tx (nI len) kp ko ka tr patm pfrm rhdm rifm rulm prrm prmm rdm bbm nwm otm evm odm)) [13, 14, 15, 16, 17, 18, 19, 20, 21, 22, 23, 24, 25, 26, 27, 28, 29] (by decide) rfl
                      have hKc := hK.sub (tys' := (tM g cG)) [9, 10, 11, 12, 13, 14, 15, 16, 17, 18, 19, 20, 21, 22, 23, 24] rfl
                      have hFc := va_free (wc := (wM g cG (nI n) hdm fim unm on may asd tx (nI len) kp ko ka tr patm pfrm rhdm rifm rulm prrm prmm rdm bbm nwm otm evm odm)) hD hS hA [13, 14, 15, 16, 17, 18, 19, 20, 21, 22, 23, 24, 25, 26, 27, 28, 29] rfl
                      refine rw_i (D := D) (wc := (wM g cG (nI n) hdm fim unm on may asd tx (nI len) kp ko ka tr patm pfrm rhdm rifm rulm prrm prmm rdm bbm nwm otm evm odm)) (va_runV (As := [.int (xs (4 * j + 1))]) (rest := [.int (s_X2_stands n may hd fi un on asd (xs (4 * j + 1)))]) ⟨hx, hb, hml, hown, hts⟩ (c_X3_stands l D g cG n hdm fim unm on may asd tx (nI len) kp ko ka tr patm pfrm rhdm rifm rulm prrm prmm rdm bbm nwm otm evm odm (xs (4 * j + 1)) hR.hn hR.hhd _) (cwV 1 hts gL_law_X3_stands rfl rfl rfl (by decide +kernel) ⟨Nat.le_of_ble_eq_true rfl, Nat.le_of_ble_eq_true rfl⟩) ⟨cPre.blind, va_recv hKc hPc (ci := 3) (q0 := 0) rfl rfl, cPre.mk hPc hKc hDc hN⟩ rfl rfl hl.1 rfl (lv_room (Nat.le_of_ble_eq_true rfl)) dL_law_375 ⟨Nat.le_of_ble_eq_true rfl, Nat.le_of_ble_eq_true rfl⟩) hS hFc (fun rv_137 u H1 locs hw_138 hP1 hD1 hk1 hS => ?_)
                      obtain ⟨rdmv_135, bbmv_136⟩ := u
                      try dsimp only at hw_138
                      obtain ⟨hP2, hD2⟩ := va_join (wr := [((h 0), .inr (2, [.ref (h 1), .ref (h 3), .ref (h 7), .int on, .int asd, .ref (h 11), .ref (h 12), .int kept, .long tr])), ((h 1), .inr (1, [.ref (h 2), .int (nI len), .int pl, .int tk, .int tp])), ((h 2), .inl ((cA 2), 300, .inl by_)), ((h 3), .inr (0, [.int (nI n), .int may, .ref (h 4), .ref (h 5), .ref (h 6)])), ((h 4), .inl ((cA 4), 10, .inl hd)), ((h 5), .inl ((cA 5), 10, .inl fi)), ((h 6), .inl ((cA 6), 10, .inl un)), ((h 7), .inr (0, [.int (nI n2), .int may2, .ref (h 8), .ref (h 9), .ref (h 10)])), ((h 8), .inl ((cA 8), 10, .inl hd2)), ((h 9), .inl ((cA 9), 10, .inl fi2)), ((h 10), .inl ((cA 10), 10, .inl un2)), ((h 11), .inl ((cA 11), 2, .inl io)), ((h 12), .inl ((cA 12), 2, .inl ia))]) (w1 := (wM g cG (nI n) hdm fim unm on may asd tx (nI len) kp ko ka tr patm pfrm rhdm rifm rulm prrm prmm rdmv_135 bbmv_136 nwm otm evm odm)) hP hD [13, 14, 15, 16, 17, 18, 19, 20, 21, 22, 23, 24, 25, 26, 27, 28, 29] [0, 1, 2, 3, 4, 5, 6, 7, 8, 9, 10, 11, 12] rfl rfl (by decide) (by decide) hk1 hFc hP1 hD1
                      have hP := hP2.sub (ws' := (wLw h cA g cG by_ (nI len) pl tk tp (nI n) may hd fi un (nI n2) may2 hd2 fi2 un2 on asd io ia kept tr (nI n) hdm fim unm on may asd tx (nI len) kp ko ka tr patm pfrm rhdm rifm rulm prrm prmm rdmv_135 bbmv_136 nwm otm evm odm)) [0, 1, 2, 3, 4, 5, 6, 7, 8, 9, 10, 11, 12, 13, 14, 15, 16, 17, 18, 19, 20, 21, 22, 23, 24, 25, 26, 27, 28, 29] rfl
                      have hD := hD2.sub (ws' := (wLw h cA g cG by_ (nI len) pl tk tp (nI n) may hd fi un (nI n2) may2 hd2 fi2 un2 on asd io ia kept tr (nI n) hdm fim unm on may asd tx (nI len) kp ko ka tr patm pfrm rhdm rifm rulm prrm prmm rdmv_135 bbmv_136 nwm otm evm odm)) [0, 1, 2, 3, 4, 5, 6, 7, 8, 9, 10, 11, 12, 13, 14, 15, 16, 17, 18, 19, 20, 21, 22, 23, 24, 25, 26, 27, 28, 29] (by decide) rfl
                      clear hP1 hD1 hFc hk1
                      generalize H1 = H at hP hS ⊢
                      refine lv_icmp_eq (tgt := 703) hx hb dL_law_378 (by decide) (fun _ => ?_) (fun hh => absurd ((q_stands hR  (xs (4 * j + 1))).trans hw_138.symm) hh)
                      refine lv_iinc (v := nI (4 * (j + 1))) (lv' := [(3, .int (nI (4 * (j + 1)))), (0, .ref b), (1, .ref (h 0)), (2, .ref (g 0))]) hx hb dL_law_703 hl (k := 3) rfl (inc4 j) (by decide) rfl (fun ls hl => ?_)
                      refine lv_goto (tgt := 18) hx hb dL_law_706 (by decide) ?_
                      exact ih (j + 1) (by omega) h cA g cG n len n2 by_ pl tk tp may hd fi un may2 hd2 fi2 un2 on asd io ia kept tr hdm fim unm tx kp ko ka patm pfrm rhdm rifm rulm prrm prmm rdmv_135 bbmv_136 nwm otm evm odm hR _ _ hK hP hD hS _ (lv_sub hl [1, 2, 3, 0] rfl)
                    · by_cases k_32_139 : ((xs (4 * j)) &&& 31) = 9
                      · refine lv_tableIn (tgt := 383) hx hb dL_law_32 (by rw [k_32_139]; decide) (by rw [k_32_139]; decide) (by rw [k_32_139]; rfl) (by decide) ?_
                        refine lv_aload_n hx hb dL_law_383 rfl (lv_at hl 1 rfl) ?_
                        refine lv_aload_n hx hb dL_law_384 rfl (lv_at hl 0 rfl) ?_
                        refine lv_iload_n hx hb dL_law_385 rfl (lv_at hl 3 rfl) ?_
                        refine lv_iconst (v := 1) hx hb dL_law_386 (by decide) ?_
                        refine lv_iadd hx hb dL_law_387 ?_
                        refine lv_cv (nI_add (4 * j) 1) ?_
                        refine wa_sld hx hb hX hbl hbA hS (4 * j + 1) rfl (by omega) (by omega) dL_law_388 ?_
                        have hPc := hP.sub (ws' := (wX h cA by_ (nI len) pl tk tp (nI n) may hd fi un (nI n2) may2 hd2 fi2 un2 on asd io ia kept tr)) [0, 1, 2, 3, 4, 5, 6, 7, 8, 9, 10, 11, 12] rfl
                        have hDc := hD.sub (ws' := (wX h cA by_ (nI len) pl tk tp (nI n) may hd fi un (nI n2) may2 hd2 fi2 un2 on asd io ia kept tr)) [0, 1, 2, 3, 4, 5, 6, 7, 8, 9, 10, 11, 12] (by decide) rfl
                        have hKc := hK.sub (tys' := (tX h cA)) [0, 1, 2, 3, 4, 5, 6, 7, 8] rfl
                        refine ro_i (D := D) (va_runV (As := [.int (xs (4 * j + 1))]) (rest := []) ⟨hx, hb, hml, hown, hts⟩ (c_X2_holds l D h cA n by_ (nI len) pl tk tp may hd fi un (nI n2) may2 hd2 fi2 un2 on asd io ia kept tr (xs (4 * j + 1)) hR.hn _) (cwV 1 hts gL_law_X2_holds rfl rfl rfl (by decide +kernel) ⟨Nat.le_of_ble_eq_true rfl, Nat.le_of_ble_eq_true rfl⟩) ⟨cPre.blind, va_recv hKc hPc (ci := 2) (q0 := 0) rfl rfl, cPre.mk hPc hKc hDc hN⟩ rfl rfl hl.1 rfl (lv_room (Nat.le_of_ble_eq_true rfl)) dL_law_389 ⟨Nat.le_of_ble_eq_true rfl, Nat.le_of_ble_eq_true rfl⟩) hS hA (fun H locs hkp0 hS => ?_)
                        replace hP := hkp0 _ hP
                        refine lv_aload_n hx hb dL_law_392 rfl (lv_at hl 2 rfl) ?_
                        refine lv_aload_n hx hb dL_law_393 rfl (lv_at hl 0 rfl) ?_
                        refine lv_iload_n hx hb dL_law_394 rfl (lv_at hl 3 rfl) ?_
                        refine lv_iconst (v := 1) hx hb dL_law_395 (by decide) ?_
                        refine lv_iadd hx hb dL_law_396 ?_
                        refine lv_cv (nI_add (4 * j) 1) ?_
                        refine wa_sld hx hb hX hbl hbA hS (4 * j + 1) rfl (by omega) (by omega) dL_law_397 ?_
                        have hPc := hP.sub (ws' := (wM g cG (nI n) hdm fim unm on may asd tx (nI len) kp ko ka tr patm pfrm rhdm rifm rulm prrm prmm rdm bbm nwm otm evm odm)) [13, 14, 15, 16, 17, 18, 19, 20, 21, 22, 23, 24, 25, 26, 27, 28, 29] rfl
                        have hDc := hD.sub (ws' := (wM g cG (nI n) hdm fim unm on may asd tx (nI len) kp ko ka tr patm pfrm rhdm rifm rulm prrm prmm rdm bbm nwm otm evm odm)) [13, 14, 15, 16, 17, 18, 19, 20, 21, 22, 23, 24, 25, 26, 27, 28, 29] (by decide) rfl
                        have hKc := hK.sub (tys' := (tM g cG)) [9, 10, 11, 12, 13, 14, 15, 16, 17, 18, 19, 20, 21, 22, 23, 24] rfl
                        have hFc := va_free (wc := (wM g cG (nI n) hdm fim unm on may asd tx (nI len) kp ko ka tr patm pfrm rhdm rifm rulm prrm prmm rdm bbm nwm otm evm odm)) hD hS hA [13, 14, 15, 16, 17, 18, 19, 20, 21, 22, 23, 24, 25, 26, 27, 28, 29] rfl
                        refine rw_i (D := D) (wc := (wM g cG (nI n) hdm fim unm on may asd tx (nI len) kp ko ka tr patm pfrm rhdm rifm rulm prrm prmm rdm bbm nwm otm evm odm)) (va_runV (As := [.int (xs (4 * j + 1))]) (rest := [.int (s_X2_holds n may hd fi un on asd (xs (4 * j + 1)))]) ⟨hx, hb, hml, hown, hts⟩ (c_X3_holds l D g cG n hdm fim unm on may asd tx (nI len) kp ko ka tr patm pfrm rhdm rifm rulm prrm prmm rdm bbm nwm otm evm odm (xs (4 * j + 1)) hR.hn hR.hhd _) (cwV 1 hts gL_law_X3_holds rfl rfl rfl (by decide +kernel) ⟨Nat.le_of_ble_eq_true rfl, Nat.le_of_ble_eq_true rfl⟩) ⟨cPre.blind, va_recv hKc hPc (ci := 3) (q0 := 0) rfl rfl, cPre.mk hPc hKc hDc hN⟩ rfl rfl hl.1 rfl (lv_room (Nat.le_of_ble_eq_true rfl)) dL_law_398 ⟨Nat.le_of_ble_eq_true rfl, Nat.le_of_ble_eq_true rfl⟩) hS hFc (fun rv_142 u H1 locs hw_143 hP1 hD1 hk1 hS => ?_)
                        obtain ⟨rdmv_140, bbmv_141⟩ := u
                        try dsimp only at hw_143
                        obtain ⟨hP2, hD2⟩ := va_join (wr := [((h 0), .inr (2, [.ref (h 1), .ref (h 3), .ref (h 7), .int on, .int asd, .ref (h 11), .ref (h 12), .int kept, .long tr])), ((h 1), .inr (1, [.ref (h 2), .int (nI len), .int pl, .int tk, .int tp])), ((h 2), .inl ((cA 2), 300, .inl by_)), ((h 3), .inr (0, [.int (nI n), .int may, .ref (h 4), .ref (h 5), .ref (h 6)])), ((h 4), .inl ((cA 4), 10, .inl hd)), ((h 5), .inl ((cA 5), 10, .inl fi)), ((h 6), .inl ((cA 6), 10, .inl un)), ((h 7), .inr (0, [.int (nI n2), .int may2, .ref (h 8), .ref (h 9), .ref (h 10)])), ((h 8), .inl ((cA 8), 10, .inl hd2)), ((h 9), .inl ((cA 9), 10, .inl fi2)), ((h 10), .inl ((cA 10), 10, .inl un2)), ((h 11), .inl ((cA 11), 2, .inl io)), ((h 12), .inl ((cA 12), 2, .inl ia))]) (w1 := (wM g cG (nI n) hdm fim unm on may asd tx (nI len) kp ko ka tr patm pfrm rhdm rifm rulm prrm prmm rdmv_140 bbmv_141 nwm otm evm odm)) hP hD [13, 14, 15, 16, 17, 18, 19, 20, 21, 22, 23, 24, 25, 26, 27, 28, 29] [0, 1, 2, 3, 4, 5, 6, 7, 8, 9, 10, 11, 12] rfl rfl (by decide) (by decide) hk1 hFc hP1 hD1
                        have hP := hP2.sub (ws' := (wLw h cA g cG by_ (nI len) pl tk tp (nI n) may hd fi un (nI n2) may2 hd2 fi2 un2 on asd io ia kept tr (nI n) hdm fim unm on may asd tx (nI len) kp ko ka tr patm pfrm rhdm rifm rulm prrm prmm rdmv_140 bbmv_141 nwm otm evm odm)) [0, 1, 2, 3, 4, 5, 6, 7, 8, 9, 10, 11, 12, 13, 14, 15, 16, 17, 18, 19, 20, 21, 22, 23, 24, 25, 26, 27, 28, 29] rfl
                        have hD := hD2.sub (ws' := (wLw h cA g cG by_ (nI len) pl tk tp (nI n) may hd fi un (nI n2) may2 hd2 fi2 un2 on asd io ia kept tr (nI n) hdm fim unm on may asd tx (nI len) kp ko ka tr patm pfrm rhdm rifm rulm prrm prmm rdmv_140 bbmv_141 nwm otm evm odm)) [0, 1, 2, 3, 4, 5, 6, 7, 8, 9, 10, 11, 12, 13, 14, 15, 16, 17, 18, 19, 20, 21, 22, 23, 24, 25, 26, 27, 28, 29] (by decide) rfl
                        clear hP1 hD1 hFc hk1
                        generalize H1 = H at hP hS ⊢
                        refine lv_icmp_eq (tgt := 703) hx hb dL_law_401 (by decide) (fun _ => ?_) (fun hh => absurd ((q_holds hR  (xs (4 * j + 1))).trans hw_143.symm) hh)
                        refine lv_iinc (v := nI (4 * (j + 1))) (lv' := [(3, .int (nI (4 * (j + 1)))), (0, .ref b), (1, .ref (h 0)), (2, .ref (g 0))]) hx hb dL_law_703 hl (k := 3) rfl (inc4 j) (by decide) rfl (fun ls hl => ?_)
                        refine lv_goto (tgt := 18) hx hb dL_law_706 (by decide) ?_
                        exact ih (j + 1) (by omega) h cA g cG n len n2 by_ pl tk tp may hd fi un may2 hd2 fi2 un2 on asd io ia kept tr hdm fim unm tx kp ko ka patm pfrm rhdm rifm rulm prrm prmm rdmv_140 bbmv_141 nwm otm evm odm hR _ _ hK hP hD hS _ (lv_sub hl [1, 2, 3, 0] rfl)
                      · by_cases k_32_144 : ((xs (4 * j)) &&& 31) = 10
                        · refine lv_tableIn (tgt := 406) hx hb dL_law_32 (by rw [k_32_144]; decide) (by rw [k_32_144]; decide) (by rw [k_32_144]; rfl) (by decide) ?_
                          refine lv_aload_n hx hb dL_law_406 rfl (lv_at hl 1 rfl) ?_
                          refine lv_aload_n hx hb dL_law_407 rfl (lv_at hl 0 rfl) ?_
                          refine lv_iload_n hx hb dL_law_408 rfl (lv_at hl 3 rfl) ?_
                          refine lv_iconst (v := 1) hx hb dL_law_409 (by decide) ?_
                          refine lv_iadd hx hb dL_law_410 ?_
                          refine lv_cv (nI_add (4 * j) 1) ?_
                          refine wa_sld hx hb hX hbl hbA hS (4 * j + 1) rfl (by omega) (by omega) dL_law_411 ?_
                          have hPc := hP.sub (ws' := (wX h cA by_ (nI len) pl tk tp (nI n) may hd fi un (nI n2) may2 hd2 fi2 un2 on asd io ia kept tr)) [0, 1, 2, 3, 4, 5, 6, 7, 8, 9, 10, 11, 12] rfl
                          have hDc := hD.sub (ws' := (wX h cA by_ (nI len) pl tk tp (nI n) may hd fi un (nI n2) may2 hd2 fi2 un2 on asd io ia kept tr)) [0, 1, 2, 3, 4, 5, 6, 7, 8, 9, 10, 11, 12] (by decide) rfl
                          have hKc := hK.sub (tys' := (tX h cA)) [0, 1, 2, 3, 4, 5, 6, 7, 8] rfl
                          refine ro_i (D := D) (va_runV (As := [.int (xs (4 * j + 1))]) (rest := []) ⟨hx, hb, hml, hown, hts⟩ (c_X2_known l D h cA n by_ (nI len) pl tk tp may hd fi un (nI n2) may2 hd2 fi2 un2 on asd io ia kept tr (xs (4 * j + 1)) hR.hn _) (cwV 1 hts gL_law_X2_known rfl rfl rfl (by decide +kernel) ⟨Nat.le_of_ble_eq_true rfl, Nat.le_of_ble_eq_true rfl⟩) ⟨cPre.blind, va_recv hKc hPc (ci := 2) (q0 := 0) rfl rfl, cPre.mk hPc hKc hDc hN⟩ rfl rfl hl.1 rfl (lv_room (Nat.le_of_ble_eq_true rfl)) dL_law_412 ⟨Nat.le_of_ble_eq_true rfl, Nat.le_of_ble_eq_true rfl⟩) hS hA (fun H locs hkp0 hS => ?_)
                          replace hP := hkp0 _ hP
                          refine lv_aload_n hx hb dL_law_415 rfl (lv_at hl 2 rfl) ?_
                          refine lv_aload_n hx hb dL_law_416 rfl (lv_at hl 0 rfl) ?_
                          refine lv_iload_n hx hb dL_law_417 rfl (lv_at hl 3 rfl) ?_
                          refine lv_iconst (v := 1) hx hb dL_law_418 (by decide) ?_
                          refine lv_iadd hx hb dL_law_419 ?_
                          refine lv_cv (nI_add (4 * j) 1) ?_
                          refine wa_sld hx hb hX hbl hbA hS (4 * j + 1) rfl (by omega) (by omega) dL_law_420 ?_
                          have hPc := hP.sub (ws' := (wM g cG (nI n) hdm fim unm on may asd tx (nI len) kp ko ka tr patm pfrm rhdm rifm rulm prrm prmm rdm bbm nwm otm evm odm)) [13, 14, 15, 16, 17, 18, 19, 20, 21, 22, 23, 24, 25, 26, 27, 28, 29] rfl
                          have hDc := hD.sub (ws' := (wM g cG (nI n) hdm fim unm on may asd tx (nI len) kp ko ka tr patm pfrm rhdm rifm rulm prrm prmm rdm bbm nwm otm evm odm)) [13, 14, 15, 16, 17, 18, 19, 20, 21, 22, 23, 24, 25, 26, 27, 28, 29] (by decide) rfl
                          have hKc := hK.sub (tys' := (tM g cG)) [9, 10, 11, 12, 13, 14, 15, 16, 17, 18, 19, 20, 21, 22, 23, 24] rfl
                          have hFc := va_free (wc := (wM g cG (nI n) hdm fim unm on may asd tx (nI len) kp ko ka tr patm pfrm rhdm rifm rulm prrm prmm rdm bbm nwm otm evm odm)) hD hS hA [13, 14, 15, 16, 17, 18, 19, 20, 21, 22, 23, 24, 25, 26, 27, 28, 29] rfl
                          refine rw_i (D := D) (wc := (wM g cG (nI n) hdm fim unm on may asd tx (nI len) kp ko ka tr patm pfrm rhdm rifm rulm prrm prmm rdm bbm nwm otm evm odm)) (va_runV (As := [.int (xs (4 * j + 1))]) (rest := [.int (s_X2_known n may hd fi un on asd (xs (4 * j + 1)))]) ⟨hx, hb, hml, hown, hts⟩ (c_X3_known l D g cG n hdm fim unm on may asd tx (nI len) kp ko ka tr patm pfrm rhdm rifm rulm prrm prmm rdm bbm nwm otm evm odm (xs (4 * j + 1)) hR.hn hR.hhd _) (cwV 1 hts gL_law_X3_known rfl rfl rfl (by decide +kernel) ⟨Nat.le_of_ble_eq_true rfl, Nat.le_of_ble_eq_true rfl⟩) ⟨cPre.blind, va_recv hKc hPc (ci := 3) (q0 := 0) rfl rfl, cPre.mk hPc hKc hDc hN⟩ rfl rfl hl.1 rfl (lv_room (Nat.le_of_ble_eq_true rfl)) dL_law_421 ⟨Nat.le_of_ble_eq_true rfl, Nat.le_of_ble_eq_true rfl⟩) hS hFc (fun rv_147 u H1 locs hw_148 hP1 hD1 hk1 hS => ?_)
                          obtain ⟨rdmv_145, bbmv_146⟩ := u
                          try dsimp only at hw_148
                          obtain ⟨hP2, hD2⟩ := va_join (wr := [((h 0), .inr (2, [.ref (h 1), .ref (h 3), .ref (h 7), .int on, .int asd, .ref (h 11), .ref (h 12), .int kept, .long tr])), ((h 1), .inr (1, [.ref (h 2), .int (nI len), .int pl, .int tk, .int tp])), ((h 2), .inl ((cA 2), 300, .inl by_)), ((h 3), .inr (0, [.int (nI n), .int may, .ref (h 4), .ref (h 5), .ref (h 6)])), ((h 4), .inl ((cA 4), 10, .inl hd)), ((h 5), .inl ((cA 5), 10, .inl fi)), ((h 6), .inl ((cA 6), 10, .inl un)), ((h 7), .inr (0, [.int (nI n2), .int may2, .ref (h 8), .ref (h 9), .ref (h 10)])), ((h 8), .inl ((cA 8), 10, .inl hd2)), ((h 9), .inl ((cA 9), 10, .inl fi2)), ((h 10), .inl ((cA 10), 10, .inl un2)), ((h 11), .inl ((cA 11), 2, .inl io)), ((h 12), .inl ((cA 12), 2, .inl ia))]) (w1 := (wM g cG (nI n) hdm fim unm on may asd tx (nI len) kp ko ka tr patm pfrm rhdm rifm rulm prrm prmm rdmv_145 bbmv_146 nwm otm evm odm)) hP hD [13, 14, 15, 16, 17, 18, 19, 20, 21, 22, 23, 24, 25, 26, 27, 28, 29] [0, 1, 2, 3, 4, 5, 6, 7, 8, 9, 10, 11, 12] rfl rfl (by decide) (by decide) hk1 hFc hP1 hD1
                          have hP := hP2.sub (ws' := (wLw h cA g cG by_ (nI len) pl tk tp (nI n) may hd fi un (nI n2) may2 hd2 fi2 un2 on asd io ia kept tr (nI n) hdm fim unm on may asd tx (nI len) kp ko ka tr patm pfrm rhdm rifm rulm prrm prmm rdmv_145 bbmv_146 nwm otm evm odm)) [0, 1, 2, 3, 4, 5, 6, 7, 8, 9, 10, 11, 12, 13, 14, 15, 16, 17, 18, 19, 20, 21, 22, 23, 24, 25, 26, 27, 28, 29] rfl
                          have hD := hD2.sub (ws' := (wLw h cA g cG by_ (nI len) pl tk tp (nI n) may hd fi un (nI n2) may2 hd2 fi2 un2 on asd io ia kept tr (nI n) hdm fim unm on may asd tx (nI len) kp ko ka tr patm pfrm rhdm rifm rulm prrm prmm rdmv_145 bbmv_146 nwm otm evm odm)) [0, 1, 2, 3, 4, 5, 6, 7, 8, 9, 10, 11, 12, 13, 14, 15, 16, 17, 18, 19, 20, 21, 22, 23, 24, 25, 26, 27, 28, 29] (by decide) rfl
                          clear hP1 hD1 hFc hk1
                          generalize H1 = H at hP hS ⊢
                          refine lv_icmp_eq (tgt := 703) hx hb dL_law_424 (by decide) (fun _ => ?_) (fun hh => absurd ((q_known hR  (xs (4 * j + 1))).trans hw_148.symm) hh)
                          refine lv_iinc (v := nI (4 * (j + 1))) (lv' := [(3, .int (nI (4 * (j + 1)))), (0, .ref b), (1, .ref (h 0)), (2, .ref (g 0))]) hx hb dL_law_703 hl (k := 3) rfl (inc4 j) (by decide) rfl (fun ls hl => ?_)
                          refine lv_goto (tgt := 18) hx hb dL_law_706 (by decide) ?_
                          exact ih (j + 1) (by omega) h cA g cG n len n2 by_ pl tk tp may hd fi un may2 hd2 fi2 un2 on asd io ia kept tr hdm fim unm tx kp ko ka patm pfrm rhdm rifm rulm prrm prmm rdmv_145 bbmv_146 nwm otm evm odm hR _ _ hK hP hD hS _ (lv_sub hl [1, 2, 3, 0] rfl)
                        · by_cases k_32_149 : ((xs (4 * j)) &&& 31) = 11
                          · refine lv_tableIn (tgt := 429) hx hb dL_law_32 (by rw [k_32_149]; decide) (by rw [k_32_149]; decide) (by rw [k_32_149]; rfl) (by decide) ?_
                            refine lv_aload_n hx hb dL_law_429 rfl (lv_at hl 1 rfl) ?_
                            refine lv_aload_n hx hb dL_law_430 rfl (lv_at hl 0 rfl) ?_
                            refine lv_iload_n hx hb dL_law_431 rfl (lv_at hl 3 rfl) ?_
                            refine lv_iconst (v := 1) hx hb dL_law_432 (by decide) ?_
                            refine lv_iadd hx hb dL_law_433 ?_
                            refine lv_cv (nI_add (4 * j) 1) ?_
                            refine wa_sld hx hb hX hbl hbA hS (4 * j + 1) rfl (by omega) (by omega) dL_law_434 ?_
                            refine lv_aload_n hx hb dL_law_435 rfl (lv_at hl 0 rfl) ?_
                            refine lv_iload_n hx hb dL_law_436 rfl (lv_at hl 3 rfl) ?_
                            refine lv_iconst (v := 2) hx hb dL_law_437 (by decide) ?_
                            refine lv_iadd hx hb dL_law_438 ?_
                            refine lv_cv (nI_add (4 * j) 2) ?_
                            refine wa_sld hx hb hX hbl hbA hS (4 * j + 2) rfl (by omega) (by omega) dL_law_439 ?_
                            refine lv_aload_n hx hb dL_law_440 rfl (lv_at hl 0 rfl) ?_
                            refine lv_iload_n hx hb dL_law_441 rfl (lv_at hl 3 rfl) ?_
                            refine lv_iconst (v := 3) hx hb dL_law_442 (by decide) ?_
                            refine lv_iadd hx hb dL_law_443 ?_
                            refine lv_cv (nI_add (4 * j) 3) ?_
                            refine wa_sld hx hb hX hbl hbA hS (4 * j + 3) rfl (by omega) (by omega) dL_law_444 ?_
                            have hPc := hP.sub (ws' := (wX h cA by_ (nI len) pl tk tp (nI n) may hd fi un (nI n2) may2 hd2 fi2 un2 on asd io ia kept tr)) [0, 1, 2, 3, 4, 5, 6, 7, 8, 9, 10, 11, 12] rfl
                            have hDc := hD.sub (ws' := (wX h cA by_ (nI len) pl tk tp (nI n) may hd fi un (nI n2) may2 hd2 fi2 un2 on asd io ia kept tr)) [0, 1, 2, 3, 4, 5, 6, 7, 8, 9, 10, 11, 12] (by decide) rfl
                            have hKc := hK.sub (tys' := (tX h cA)) [0, 1, 2, 3, 4, 5, 6, 7, 8] rfl
                            refine ro_i (D := D) (va_runV (As := [.int (xs (4 * j + 1)), .int (xs (4 * j + 2)), .int (xs (4 * j + 3))]) (rest := []) ⟨hx, hb, hml, hown, hts⟩ (c_X2_why l D h cA n by_ (nI len) pl tk tp may hd fi un (nI n2) may2 hd2 fi2 un2 on asd io ia kept tr (xs (4 * j + 1)) (xs (4 * j + 2)) (xs (4 * j + 3)) hR.hn _) (cwV 3 hts gL_law_X2_why rfl rfl rfl (by decide +kernel) ⟨Nat.le_of_ble_eq_true rfl, Nat.le_of_ble_eq_true rfl⟩) ⟨cPre.blind, va_recv hKc hPc (ci := 2) (q0 := 0) rfl rfl, cPre.mk hPc hKc hDc hN⟩ rfl rfl hl.1 rfl (lv_room (Nat.le_of_ble_eq_true rfl)) dL_law_445 ⟨Nat.le_of_ble_eq_true rfl, Nat.le_of_ble_eq_true rfl⟩) hS hA (fun H locs hkp0 hS => ?_)
                            replace hP := hkp0 _ hP
                            refine lv_aload_n hx hb dL_law_448 rfl (lv_at hl 2 rfl) ?_
                            refine lv_aload_n hx hb dL_law_449 rfl (lv_at hl 0 rfl) ?_
                            refine lv_iload_n hx hb dL_law_450 rfl (lv_at hl 3 rfl) ?_
                            refine lv_iconst (v := 1) hx hb dL_law_451 (by decide) ?_
                            refine lv_iadd hx hb dL_law_452 ?_
                            refine lv_cv (nI_add (4 * j) 1) ?_
                            refine wa_sld hx hb hX hbl hbA hS (4 * j + 1) rfl (by omega) (by omega) dL_law_453 ?_
                            refine lv_aload_n hx hb dL_law_454 rfl (lv_at hl 0 rfl) ?_
                            refine lv_iload_n hx hb dL_law_455 rfl (lv_at hl 3 rfl) ?_
                            refine lv_iconst (v := 2) hx hb dL_law_456 (by decide) ?_
                            refine lv_iadd hx hb dL_law_457 ?_
                            refine lv_cv (nI_add (4 * j) 2) ?_
                            refine wa_sld hx hb hX hbl hbA hS (4 * j + 2) rfl (by omega) (by omega) dL_law_458 ?_
                            refine lv_aload_n hx hb dL_law_459 rfl (lv_at hl 0 rfl) ?_
                            refine lv_iload_n hx hb dL_law_460 rfl (lv_at hl 3 rfl) ?_
                            refine lv_iconst (v := 3) hx hb dL_law_461 (by decide) ?_
                            refine lv_iadd hx hb dL_law_462 ?_
                            refine lv_cv (nI_add (4 * j) 3) ?_
                            refine wa_sld hx hb hX hbl hbA hS (4 * j + 3) rfl (by omega) (by omega) dL_law_463 ?_
                            have hPc := hP.sub (ws' := (wM g cG (nI n) hdm fim unm on may asd tx (nI len) kp ko ka tr patm pfrm rhdm rifm rulm prrm prmm rdm bbm nwm otm evm odm)) [13, 14, 15, 16, 17, 18, 19, 20, 21, 22, 23, 24, 25, 26, 27, 28, 29] rfl
                            have hDc := hD.sub (ws' := (wM g cG (nI n) hdm fim unm on may asd tx (nI len) kp ko ka tr patm pfrm rhdm rifm rulm prrm prmm rdm bbm nwm otm evm odm)) [13, 14, 15, 16, 17, 18, 19, 20, 21, 22, 23, 24, 25, 26, 27, 28, 29] (by decide) rfl
                            have hKc := hK.sub (tys' := (tM g cG)) [9, 10, 11, 12, 13, 14, 15, 16, 17, 18, 19, 20, 21, 22, 23, 24] rfl
                            have hFc := va_free (wc := (wM g cG (nI n) hdm fim unm on may asd tx (nI len) kp ko ka tr patm pfrm rhdm rifm rulm prrm prmm rdm bbm nwm otm evm odm)) hD hS hA [13, 14, 15, 16, 17, 18, 19, 20, 21, 22, 23, 24, 25, 26, 27, 28, 29] rfl
                            refine rw_i (D := D) (wc := (wM g cG (nI n) hdm fim unm on may asd tx (nI len) kp ko ka tr patm pfrm rhdm rifm rulm prrm prmm rdm bbm nwm otm evm odm)) (va_runV (As := [.int (xs (4 * j + 1)), .int (xs (4 * j + 2)), .int (xs (4 * j + 3))]) (rest := [.int (s_X2_why n may hd fi un on asd (xs (4 * j + 1)) (xs (4 * j + 2)) (xs (4 * j + 3)))]) ⟨hx, hb, hml, hown, hts⟩ (c_X3_why l D g cG n hdm fim unm on may asd tx (nI len) kp ko ka tr patm pfrm rhdm rifm rulm prrm prmm rdm bbm nwm otm evm odm (xs (4 * j + 1)) (xs (4 * j + 2)) (xs (4 * j + 3)) hR.hn hR.hhd _) (cwV 3 hts gL_law_X3_why rfl rfl rfl (by decide +kernel) ⟨Nat.le_of_ble_eq_true rfl, Nat.le_of_ble_eq_true rfl⟩) ⟨cPre.blind, va_recv hKc hPc (ci := 3) (q0 := 0) rfl rfl, cPre.mk hPc hKc hDc hN⟩ rfl rfl hl.1 rfl (lv_room (Nat.le_of_ble_eq_true rfl)) dL_law_464 ⟨Nat.le_of_ble_eq_true rfl, Nat.le_of_ble_eq_true rfl⟩) hS hFc (fun rv_153 u H1 locs hw_154 hP1 hD1 hk1 hS => ?_)
                            obtain ⟨rdmv_150, bbmv_151, nwmv_152⟩ := u
                            try dsimp only at hw_154
                            obtain ⟨hP2, hD2⟩ := va_join (wr := [((h 0), .inr (2, [.ref (h 1), .ref (h 3), .ref (h 7), .int on, .int asd, .ref (h 11), .ref (h 12), .int kept, .long tr])), ((h 1), .inr (1, [.ref (h 2), .int (nI len), .int pl, .int tk, .int tp])), ((h 2), .inl ((cA 2), 300, .inl by_)), ((h 3), .inr (0, [.int (nI n), .int may, .ref (h 4), .ref (h 5), .ref (h 6)])), ((h 4), .inl ((cA 4), 10, .inl hd)), ((h 5), .inl ((cA 5), 10, .inl fi)), ((h 6), .inl ((cA 6), 10, .inl un)), ((h 7), .inr (0, [.int (nI n2), .int may2, .ref (h 8), .ref (h 9), .ref (h 10)])), ((h 8), .inl ((cA 8), 10, .inl hd2)), ((h 9), .inl ((cA 9), 10, .inl fi2)), ((h 10), .inl ((cA 10), 10, .inl un2)), ((h 11), .inl ((cA 11), 2, .inl io)), ((h 12), .inl ((cA 12), 2, .inl ia))]) (w1 := (wM g cG (nI n) hdm fim unm on may asd tx (nI len) kp ko ka tr patm pfrm rhdm rifm rulm prrm prmm rdmv_150 bbmv_151 nwmv_152 otm evm odm)) hP hD [13, 14, 15, 16, 17, 18, 19, 20, 21, 22, 23, 24, 25, 26, 27, 28, 29] [0, 1, 2, 3, 4, 5, 6, 7, 8, 9, 10, 11, 12] rfl rfl (by decide) (by decide) hk1 hFc hP1 hD1
                            have hP := hP2.sub (ws' := (wLw h cA g cG by_ (nI len) pl tk tp (nI n) may hd fi un (nI n2) may2 hd2 fi2 un2 on asd io ia kept tr (nI n) hdm fim unm on may asd tx (nI len) kp ko ka tr patm pfrm rhdm rifm rulm prrm prmm rdmv_150 bbmv_151 nwmv_152 otm evm odm)) [0, 1, 2, 3, 4, 5, 6, 7, 8, 9, 10, 11, 12, 13, 14, 15, 16, 17, 18, 19, 20, 21, 22, 23, 24, 25, 26, 27, 28, 29] rfl
                            have hD := hD2.sub (ws' := (wLw h cA g cG by_ (nI len) pl tk tp (nI n) may hd fi un (nI n2) may2 hd2 fi2 un2 on asd io ia kept tr (nI n) hdm fim unm on may asd tx (nI len) kp ko ka tr patm pfrm rhdm rifm rulm prrm prmm rdmv_150 bbmv_151 nwmv_152 otm evm odm)) [0, 1, 2, 3, 4, 5, 6, 7, 8, 9, 10, 11, 12, 13, 14, 15, 16, 17, 18, 19, 20, 21, 22, 23, 24, 25, 26, 27, 28, 29] (by decide) rfl
                            clear hP1 hD1 hFc hk1
                            generalize H1 = H at hP hS ⊢
                            refine lv_icmp_eq (tgt := 703) hx hb dL_law_467 (by decide) (fun _ => ?_) (fun hh => absurd ((q_why hR nwm (xs (4 * j + 1)) (xs (4 * j + 2)) (xs (4 * j + 3))).trans hw_154.symm) hh)
                            refine lv_iinc (v := nI (4 * (j + 1))) (lv' := [(3, .int (nI (4 * (j + 1)))), (0, .ref b), (1, .ref (h 0)), (2, .ref (g 0))]) hx hb dL_law_703 hl (k := 3) rfl (inc4 j) (by decide) rfl (fun ls hl => ?_)
                            refine lv_goto (tgt := 18) hx hb dL_law_706 (by decide) ?_
                            exact ih (j + 1) (by omega) h cA g cG n len n2 by_ pl tk tp may hd fi un may2 hd2 fi2 un2 on asd io ia kept tr hdm fim unm tx kp ko ka patm pfrm rhdm rifm rulm prrm prmm rdmv_150 bbmv_151 nwmv_152 otm evm odm hR _ _ hK hP hD hS _ (lv_sub hl [1, 2, 3, 0] rfl)
                          · by_cases k_32_155 : ((xs (4 * j)) &&& 31) = 12
                            · refine lv_tableIn (tgt := 472) hx hb dL_law_32 (by rw [k_32_155]; decide) (by rw [k_32_155]; decide) (by rw [k_32_155]; rfl) (by decide) ?_
                              refine lv_aload_n hx hb dL_law_472 rfl (lv_at hl 1 rfl) ?_
                              refine lv_aload_n hx hb dL_law_473 rfl (lv_at hl 0 rfl) ?_
                              refine lv_iload_n hx hb dL_law_474 rfl (lv_at hl 3 rfl) ?_
                              refine lv_iconst (v := 1) hx hb dL_law_475 (by decide) ?_
                              refine lv_iadd hx hb dL_law_476 ?_
                              refine lv_cv (nI_add (4 * j) 1) ?_
                              refine wa_sld hx hb hX hbl hbA hS (4 * j + 1) rfl (by omega) (by omega) dL_law_477 ?_
                              have hPc := hP.sub (ws' := (wX h cA by_ (nI len) pl tk tp (nI n) may hd fi un (nI n2) may2 hd2 fi2 un2 on asd io ia kept tr)) [0, 1, 2, 3, 4, 5, 6, 7, 8, 9, 10, 11, 12] rfl
                              have hDc := hD.sub (ws' := (wX h cA by_ (nI len) pl tk tp (nI n) may hd fi un (nI n2) may2 hd2 fi2 un2 on asd io ia kept tr)) [0, 1, 2, 3, 4, 5, 6, 7, 8, 9, 10, 11, 12] (by decide) rfl
                              have hKc := hK.sub (tys' := (tX h cA)) [0, 1, 2, 3, 4, 5, 6, 7, 8] rfl
                              refine ro_i (D := D) (va_runV (As := [.int (xs (4 * j + 1))]) (rest := []) ⟨hx, hb, hml, hown, hts⟩ (c_X2_hangs l D h cA n by_ (nI len) pl tk tp may hd fi un (nI n2) may2 hd2 fi2 un2 on asd io ia kept tr (xs (4 * j + 1)) hR.hn _) (cwV 1 hts gL_law_X2_hangs rfl rfl rfl (by decide +kernel) ⟨Nat.le_of_ble_eq_true rfl, Nat.le_of_ble_eq_true rfl⟩) ⟨cPre.blind, va_recv hKc hPc (ci := 2) (q0 := 0) rfl rfl, cPre.mk hPc hKc hDc hN⟩ rfl rfl hl.1 rfl (lv_room (Nat.le_of_ble_eq_true rfl)) dL_law_478 ⟨Nat.le_of_ble_eq_true rfl, Nat.le_of_ble_eq_true rfl⟩) hS hA (fun H locs hkp0 hS => ?_)
                              replace hP := hkp0 _ hP
                              refine lv_aload_n hx hb dL_law_481 rfl (lv_at hl 2 rfl) ?_
                              refine lv_aload_n hx hb dL_law_482 rfl (lv_at hl 0 rfl) ?_
                              refine lv_iload_n hx hb dL_law_483 rfl (lv_at hl 3 rfl) ?_
                              refine lv_iconst (v := 1) hx hb dL_law_484 (by decide) ?_
                              refine lv_iadd hx hb dL_law_485 ?_
                              refine lv_cv (nI_add (4 * j) 1) ?_
                              refine wa_sld hx hb hX hbl hbA hS (4 * j + 1) rfl (by omega) (by omega) dL_law_486 ?_
                              have hPc := hP.sub (ws' := (wM g cG (nI n) hdm fim unm on may asd tx (nI len) kp ko ka tr patm pfrm rhdm rifm rulm prrm prmm rdm bbm nwm otm evm odm)) [13, 14, 15, 16, 17, 18, 19, 20, 21, 22, 23, 24, 25, 26, 27, 28, 29] rfl
                              have hDc := hD.sub (ws' := (wM g cG (nI n) hdm fim unm on may asd tx (nI len) kp ko ka tr patm pfrm rhdm rifm rulm prrm prmm rdm bbm nwm otm evm odm)) [13, 14, 15, 16, 17, 18, 19, 20, 21, 22, 23, 24, 25, 26, 27, 28, 29] (by decide) rfl
                              have hKc := hK.sub (tys' := (tM g cG)) [9, 10, 11, 12, 13, 14, 15, 16, 17, 18, 19, 20, 21, 22, 23, 24] rfl
                              have hFc := va_free (wc := (wM g cG (nI n) hdm fim unm on may asd tx (nI len) kp ko ka tr patm pfrm rhdm rifm rulm prrm prmm rdm bbm nwm otm evm odm)) hD hS hA [13, 14, 15, 16, 17, 18, 19, 20, 21, 22, 23, 24, 25, 26, 27, 28, 29] rfl
                              refine rw_i (D := D) (wc := (wM g cG (nI n) hdm fim unm on may asd tx (nI len) kp ko ka tr patm pfrm rhdm rifm rulm prrm prmm rdm bbm nwm otm evm odm)) (va_runV (As := [.int (xs (4 * j + 1))]) (rest := [.int (s_X2_hangs n hd fi un on (xs (4 * j + 1)))]) ⟨hx, hb, hml, hown, hts⟩ (c_X3_hangs l D g cG n hdm fim unm on may asd tx (nI len) kp ko ka tr patm pfrm rhdm rifm rulm prrm prmm rdm bbm nwm otm evm odm (xs (4 * j + 1)) hR.hn hR.hhd _) (cwV 1 hts gL_law_X3_hangs rfl rfl rfl (by decide +kernel) ⟨Nat.le_of_ble_eq_true rfl, Nat.le_of_ble_eq_true rfl⟩) ⟨cPre.blind, va_recv hKc hPc (ci := 3) (q0 := 0) rfl rfl, cPre.mk hPc hKc hDc hN⟩ rfl rfl hl.1 rfl (lv_room (Nat.le_of_ble_eq_true rfl)) dL_law_487 ⟨Nat.le_of_ble_eq_true rfl, Nat.le_of_ble_eq_true rfl⟩) hS hFc (fun rv_158 u H1 locs hw_159 hP1 hD1 hk1 hS => ?_)
                              obtain ⟨evmv_156, odmv_157⟩ := u
                              try dsimp only at hw_159
                              obtain ⟨hP2, hD2⟩ := va_join (wr := [((h 0), .inr (2, [.ref (h 1), .ref (h 3), .ref (h 7), .int on, .int asd, .ref (h 11), .ref (h 12), .int kept, .long tr])), ((h 1), .inr (1, [.ref (h 2), .int (nI len), .int pl, .int tk, .int tp])), ((h 2), .inl ((cA 2), 300, .inl by_)), ((h 3), .inr (0, [.int (nI n), .int may, .ref (h 4), .ref (h 5), .ref (h 6)])), ((h 4), .inl ((cA 4), 10, .inl hd)), ((h 5), .inl ((cA 5), 10, .inl fi)), ((h 6), .inl ((cA 6), 10, .inl un)), ((h 7), .inr (0, [.int (nI n2), .int may2, .ref (h 8), .ref (h 9), .ref (h 10)])), ((h 8), .inl ((cA 8), 10, .inl hd2)), ((h 9), .inl ((cA 9), 10, .inl fi2)), ((h 10), .inl ((cA 10), 10, .inl un2)), ((h 11), .inl ((cA 11), 2, .inl io)), ((h 12), .inl ((cA 12), 2, .inl ia))]) (w1 := (wM g cG (nI n) hdm fim unm on may asd tx (nI len) kp ko ka tr patm pfrm rhdm rifm rulm prrm prmm rdm bbm nwm otm evmv_156 odmv_157)) hP hD [13, 14, 15, 16, 17, 18, 19, 20, 21, 22, 23, 24, 25, 26, 27, 28, 29] [0, 1, 2, 3, 4, 5, 6, 7, 8, 9, 10, 11, 12] rfl rfl (by decide) (by decide) hk1 hFc hP1 hD1
                              have hP := hP2.sub (ws' := (wLw h cA g cG by_ (nI len) pl tk tp (nI n) may hd fi un (nI n2) may2 hd2 fi2 un2 on asd io ia kept tr (nI n) hdm fim unm on may asd tx (nI len) kp ko ka tr patm pfrm rhdm rifm rulm prrm prmm rdm bbm nwm otm evmv_156 odmv_157)) [0, 1, 2, 3, 4, 5, 6, 7, 8, 9, 10, 11, 12, 13, 14, 15, 16, 17, 18, 19, 20, 21, 22, 23, 24, 25, 26, 27, 28, 29] rfl
                              have hD := hD2.sub (ws' := (wLw h cA g cG by_ (nI len) pl tk tp (nI n) may hd fi un (nI n2) may2 hd2 fi2 un2 on asd io ia kept tr (nI n) hdm fim unm on may asd tx (nI len) kp ko ka tr patm pfrm rhdm rifm rulm prrm prmm rdm bbm nwm otm evmv_156 odmv_157)) [0, 1, 2, 3, 4, 5, 6, 7, 8, 9, 10, 11, 12, 13, 14, 15, 16, 17, 18, 19, 20, 21, 22, 23, 24, 25, 26, 27, 28, 29] (by decide) rfl
                              clear hP1 hD1 hFc hk1
                              generalize H1 = H at hP hS ⊢
                              refine lv_icmp_eq (tgt := 703) hx hb dL_law_490 (by decide) (fun _ => ?_) (fun hh => absurd ((q_hangs hR evm odm (xs (4 * j + 1))).trans hw_159.symm) hh)
                              refine lv_iinc (v := nI (4 * (j + 1))) (lv' := [(3, .int (nI (4 * (j + 1)))), (0, .ref b), (1, .ref (h 0)), (2, .ref (g 0))]) hx hb dL_law_703 hl (k := 3) rfl (inc4 j) (by decide) rfl (fun ls hl => ?_)
                              refine lv_goto (tgt := 18) hx hb dL_law_706 (by decide) ?_
                              exact ih (j + 1) (by omega) h cA g cG n len n2 by_ pl tk tp may hd fi un may2 hd2 fi2 un2 on asd io ia kept tr hdm fim unm tx kp ko ka patm pfrm rhdm rifm rulm prrm prmm rdm bbm nwm otm evmv_156 odmv_157 hR _ _ hK hP hD hS _ (lv_sub hl [1, 2, 3, 0] rfl)
                            · by_cases k_32_160 : ((xs (4 * j)) &&& 31) = 13
                              · refine lv_tableIn (tgt := 495) hx hb dL_law_32 (by rw [k_32_160]; decide) (by rw [k_32_160]; decide) (by rw [k_32_160]; rfl) (by decide) ?_
                                refine lv_aload_n hx hb dL_law_495 rfl (lv_at hl 1 rfl) ?_
                                refine lv_aload_n hx hb dL_law_496 rfl (lv_at hl 0 rfl) ?_
                                refine lv_iload_n hx hb dL_law_497 rfl (lv_at hl 3 rfl) ?_
                                refine lv_iconst (v := 1) hx hb dL_law_498 (by decide) ?_
                                refine lv_iadd hx hb dL_law_499 ?_
                                refine lv_cv (nI_add (4 * j) 1) ?_
                                refine wa_sld hx hb hX hbl hbA hS (4 * j + 1) rfl (by omega) (by omega) dL_law_500 ?_
                                refine lv_aload_n hx hb dL_law_501 rfl (lv_at hl 0 rfl) ?_
                                refine lv_iload_n hx hb dL_law_502 rfl (lv_at hl 3 rfl) ?_
                                refine lv_iconst (v := 2) hx hb dL_law_503 (by decide) ?_
                                refine lv_iadd hx hb dL_law_504 ?_
                                refine lv_cv (nI_add (4 * j) 2) ?_
                                refine wa_sld hx hb hX hbl hbA hS (4 * j + 2) rfl (by omega) (by omega) dL_law_505 ?_
                                have hPc := hP.sub (ws' := (wX h cA by_ (nI len) pl tk tp (nI n) may hd fi un (nI n2) may2 hd2 fi2 un2 on asd io ia kept tr)) [0, 1, 2, 3, 4, 5, 6, 7, 8, 9, 10, 11, 12] rfl
                                have hDc := hD.sub (ws' := (wX h cA by_ (nI len) pl tk tp (nI n) may hd fi un (nI n2) may2 hd2 fi2 un2 on asd io ia kept tr)) [0, 1, 2, 3, 4, 5, 6, 7, 8, 9, 10, 11, 12] (by decide) rfl
                                have hKc := hK.sub (tys' := (tX h cA)) [0, 1, 2, 3, 4, 5, 6, 7, 8] rfl
                                refine ro_i (D := D) (va_runV (As := [.int (xs (4 * j + 1)), .int (xs (4 * j + 2))]) (rest := []) ⟨hx, hb, hml, hown, hts⟩ (c_X2_explains l D h cA n by_ (nI len) pl tk tp may hd fi un (nI n2) may2 hd2 fi2 un2 on asd io ia kept tr (xs (4 * j + 1)) (xs (4 * j + 2)) hR.hn hR.hasd _) (cwV 2 hts gL_law_X2_explains rfl rfl rfl (by decide +kernel) ⟨Nat.le_of_ble_eq_true rfl, Nat.le_of_ble_eq_true rfl⟩) ⟨cPre.blind, va_recv hKc hPc (ci := 2) (q0 := 0) rfl rfl, cPre.mk hPc hKc hDc hN⟩ rfl rfl hl.1 rfl (lv_room (Nat.le_of_ble_eq_true rfl)) dL_law_506 ⟨Nat.le_of_ble_eq_true rfl, Nat.le_of_ble_eq_true rfl⟩) hS hA (fun H locs hkp0 hS => ?_)
                                replace hP := hkp0 _ hP
                                refine lv_aload_n hx hb dL_law_509 rfl (lv_at hl 2 rfl) ?_
                                refine lv_aload_n hx hb dL_law_510 rfl (lv_at hl 0 rfl) ?_
                                refine lv_iload_n hx hb dL_law_511 rfl (lv_at hl 3 rfl) ?_
                                refine lv_iconst (v := 1) hx hb dL_law_512 (by decide) ?_
                                refine lv_iadd hx hb dL_law_513 ?_
                                refine lv_cv (nI_add (4 * j) 1) ?_
                                refine wa_sld hx hb hX hbl hbA hS (4 * j + 1) rfl (by omega) (by omega) dL_law_514 ?_
                                refine lv_aload_n hx hb dL_law_515 rfl (lv_at hl 0 rfl) ?_
                                refine lv_iload_n hx hb dL_law_516 rfl (lv_at hl 3 rfl) ?_
                                refine lv_iconst (v := 2) hx hb dL_law_517 (by decide) ?_
                                refine lv_iadd hx hb dL_law_518 ?_
                                refine lv_cv (nI_add (4 * j) 2) ?_
                                refine wa_sld hx hb hX hbl hbA hS (4 * j + 2) rfl (by omega) (by omega) dL_law_519 ?_
                                have hPc := hP.sub (ws' := (wM g cG (nI n) hdm fim unm on may asd tx (nI len) kp ko ka tr patm pfrm rhdm rifm rulm prrm prmm rdm bbm nwm otm evm odm)) [13, 14, 15, 16, 17, 18, 19, 20, 21, 22, 23, 24, 25, 26, 27, 28, 29] rfl
                                have hDc := hD.sub (ws' := (wM g cG (nI n) hdm fim unm on may asd tx (nI len) kp ko ka tr patm pfrm rhdm rifm rulm prrm prmm rdm bbm nwm otm evm odm)) [13, 14, 15, 16, 17, 18, 19, 20, 21, 22, 23, 24, 25, 26, 27, 28, 29] (by decide) rfl
                                have hKc := hK.sub (tys' := (tM g cG)) [9, 10, 11, 12, 13, 14, 15, 16, 17, 18, 19, 20, 21, 22, 23, 24] rfl
                                have hFc := va_free (wc := (wM g cG (nI n) hdm fim unm on may asd tx (nI len) kp ko ka tr patm pfrm rhdm rifm rulm prrm prmm rdm bbm nwm otm evm odm)) hD hS hA [13, 14, 15, 16, 17, 18, 19, 20, 21, 22, 23, 24, 25, 26, 27, 28, 29] rfl
                                refine rw_i (D := D) (wc := (wM g cG (nI n) hdm fim unm on may asd tx (nI len) kp ko ka tr patm pfrm rhdm rifm rulm prrm prmm rdm bbm nwm otm evm odm)) (va_runV (As := [.int (xs (4 * j + 1)), .int (xs (4 * j + 2))]) (rest := [.int (s_X2_explains n may hd fi un on asd (xs (4 * j + 1)) (xs (4 * j + 2)))]) ⟨hx, hb, hml, hown, hts⟩ (c_X3_explains l D g cG n hdm fim unm on may asd tx (nI len) kp ko ka tr patm pfrm rhdm rifm rulm prrm prmm rdm bbm nwm otm evm odm (xs (4 * j + 1)) (xs (4 * j + 2)) hR.hn hR.hhd _) (cwV 2 hts gL_law_X3_explains rfl rfl rfl (by decide +kernel) ⟨Nat.le_of_ble_eq_true rfl, Nat.le_of_ble_eq_true rfl⟩) ⟨cPre.blind, va_recv hKc hPc (ci := 3) (q0 := 0) rfl rfl, cPre.mk hPc hKc hDc hN⟩ rfl rfl hl.1 rfl (lv_room (Nat.le_of_ble_eq_true rfl)) dL_law_520 ⟨Nat.le_of_ble_eq_true rfl, Nat.le_of_ble_eq_true rfl⟩) hS hFc (fun rv_163 u H1 locs hw_164 hP1 hD1 hk1 hS => ?_)
                                obtain ⟨rdmv_161, bbmv_162⟩ := u
                                try dsimp only at hw_164
                                obtain ⟨hP2, hD2⟩ := va_join (wr := [((h 0), .inr (2, [.ref (h 1), .ref (h 3), .ref (h 7), .int on, .int asd, .ref (h 11), .ref (h 12), .int kept, .long tr])), ((h 1), .inr (1, [.ref (h 2), .int (nI len), .int pl, .int tk, .int tp])), ((h 2), .inl ((cA 2), 300, .inl by_)), ((h 3), .inr (0, [.int (nI n), .int may, .ref (h 4), .ref (h 5), .ref (h 6)])), ((h 4), .inl ((cA 4), 10, .inl hd)), ((h 5), .inl ((cA 5), 10, .inl fi)), ((h 6), .inl ((cA 6), 10, .inl un)), ((h 7), .inr (0, [.int (nI n2), .int may2, .ref (h 8), .ref (h 9), .ref (h 10)])), ((h 8), .inl ((cA 8), 10, .inl hd2)), ((h 9), .inl ((cA 9), 10, .inl fi2)), ((h 10), .inl ((cA 10), 10, .inl un2)), ((h 11), .inl ((cA 11), 2, .inl io)), ((h 12), .inl ((cA 12), 2, .inl ia))]) (w1 := (wM g cG (nI n) hdm fim unm on may asd tx (nI len) kp ko ka tr patm pfrm rhdm rifm rulm prrm prmm rdmv_161 bbmv_162 nwm otm evm odm)) hP hD [13, 14, 15, 16, 17, 18, 19, 20, 21, 22, 23, 24, 25, 26, 27, 28, 29] [0, 1, 2, 3, 4, 5, 6, 7, 8, 9, 10, 11, 12] rfl rfl (by decide) (by decide) hk1 hFc hP1 hD1
                                have hP := hP2.sub (ws' := (wLw h cA g cG by_ (nI len) pl tk tp (nI n) may hd fi un (nI n2) may2 hd2 fi2 un2 on asd io ia kept tr (nI n) hdm fim unm on may asd tx (nI len) kp ko ka tr patm pfrm rhdm rifm rulm prrm prmm rdmv_161 bbmv_162 nwm otm evm odm)) [0, 1, 2, 3, 4, 5, 6, 7, 8, 9, 10, 11, 12, 13, 14, 15, 16, 17, 18, 19, 20, 21, 22, 23, 24, 25, 26, 27, 28, 29] rfl
                                have hD := hD2.sub (ws' := (wLw h cA g cG by_ (nI len) pl tk tp (nI n) may hd fi un (nI n2) may2 hd2 fi2 un2 on asd io ia kept tr (nI n) hdm fim unm on may asd tx (nI len) kp ko ka tr patm pfrm rhdm rifm rulm prrm prmm rdmv_161 bbmv_162 nwm otm evm odm)) [0, 1, 2, 3, 4, 5, 6, 7, 8, 9, 10, 11, 12, 13, 14, 15, 16, 17, 18, 19, 20, 21, 22, 23, 24, 25, 26, 27, 28, 29] (by decide) rfl
                                clear hP1 hD1 hFc hk1
                                generalize H1 = H at hP hS ⊢
                                refine lv_icmp_eq (tgt := 703) hx hb dL_law_523 (by decide) (fun _ => ?_) (fun hh => absurd ((q_explains hR  (xs (4 * j + 1)) (xs (4 * j + 2))).trans hw_164.symm) hh)
                                refine lv_iinc (v := nI (4 * (j + 1))) (lv' := [(3, .int (nI (4 * (j + 1)))), (0, .ref b), (1, .ref (h 0)), (2, .ref (g 0))]) hx hb dL_law_703 hl (k := 3) rfl (inc4 j) (by decide) rfl (fun ls hl => ?_)
                                refine lv_goto (tgt := 18) hx hb dL_law_706 (by decide) ?_
                                exact ih (j + 1) (by omega) h cA g cG n len n2 by_ pl tk tp may hd fi un may2 hd2 fi2 un2 on asd io ia kept tr hdm fim unm tx kp ko ka patm pfrm rhdm rifm rulm prrm prmm rdmv_161 bbmv_162 nwm otm evm odm hR _ _ hK hP hD hS _ (lv_sub hl [1, 2, 3, 0] rfl)
                              · by_cases k_32_165 : ((xs (4 * j)) &&& 31) = 14
                                · refine lv_tableIn (tgt := 528) hx hb dL_law_32 (by rw [k_32_165]; decide) (by rw [k_32_165]; decide) (by rw [k_32_165]; rfl) (by decide) ?_
                                  refine lv_aload_n hx hb dL_law_528 rfl (lv_at hl 1 rfl) ?_
                                  have hPc := hP.sub (ws' := (wX h cA by_ (nI len) pl tk tp (nI n) may hd fi un (nI n2) may2 hd2 fi2 un2 on asd io ia kept tr)) [0, 1, 2, 3, 4, 5, 6, 7, 8, 9, 10, 11, 12] rfl
                                  have hDc := hD.sub (ws' := (wX h cA by_ (nI len) pl tk tp (nI n) may hd fi un (nI n2) may2 hd2 fi2 un2 on asd io ia kept tr)) [0, 1, 2, 3, 4, 5, 6, 7, 8, 9, 10, 11, 12] (by decide) rfl
                                  have hKc := hK.sub (tys' := (tX h cA)) [0, 1, 2, 3, 4, 5, 6, 7, 8] rfl
                                  refine ro_i (D := D) (va_runV (As := []) (rest := []) ⟨hx, hb, hml, hown, hts⟩ (c_X2_givesUp l D h cA n by_ (nI len) pl tk tp may hd fi un (nI n2) may2 hd2 fi2 un2 on asd io ia kept tr hR.hn _) (cwV 0 hts gL_law_X2_givesUp rfl rfl rfl (by decide +kernel) ⟨Nat.le_of_ble_eq_true rfl, Nat.le_of_ble_eq_true rfl⟩) ⟨cPre.blind, va_recv hKc hPc (ci := 2) (q0 := 0) rfl rfl, cPre.mk hPc hKc hDc hN⟩ rfl rfl hl.1 rfl (lv_room (Nat.le_of_ble_eq_true rfl)) dL_law_529 ⟨Nat.le_of_ble_eq_true rfl, Nat.le_of_ble_eq_true rfl⟩) hS hA (fun H locs hkp0 hS => ?_)
                                  replace hP := hkp0 _ hP
                                  refine lv_aload_n hx hb dL_law_532 rfl (lv_at hl 2 rfl) ?_
                                  have hPc := hP.sub (ws' := (wM g cG (nI n) hdm fim unm on may asd tx (nI len) kp ko ka tr patm pfrm rhdm rifm rulm prrm prmm rdm bbm nwm otm evm odm)) [13, 14, 15, 16, 17, 18, 19, 20, 21, 22, 23, 24, 25, 26, 27, 28, 29] rfl
                                  have hDc := hD.sub (ws' := (wM g cG (nI n) hdm fim unm on may asd tx (nI len) kp ko ka tr patm pfrm rhdm rifm rulm prrm prmm rdm bbm nwm otm evm odm)) [13, 14, 15, 16, 17, 18, 19, 20, 21, 22, 23, 24, 25, 26, 27, 28, 29] (by decide) rfl
                                  have hKc := hK.sub (tys' := (tM g cG)) [9, 10, 11, 12, 13, 14, 15, 16, 17, 18, 19, 20, 21, 22, 23, 24] rfl
                                  have hFc := va_free (wc := (wM g cG (nI n) hdm fim unm on may asd tx (nI len) kp ko ka tr patm pfrm rhdm rifm rulm prrm prmm rdm bbm nwm otm evm odm)) hD hS hA [13, 14, 15, 16, 17, 18, 19, 20, 21, 22, 23, 24, 25, 26, 27, 28, 29] rfl
                                  refine rw_i (D := D) (wc := (wM g cG (nI n) hdm fim unm on may asd tx (nI len) kp ko ka tr patm pfrm rhdm rifm rulm prrm prmm rdm bbm nwm otm evm odm)) (va_runV (As := []) (rest := [.int (s_X2_givesUp n may hd fi un on asd)]) ⟨hx, hb, hml, hown, hts⟩ (c_X3_givesUp l D g cG n hdm fim unm on may asd tx (nI len) kp ko ka tr patm pfrm rhdm rifm rulm prrm prmm rdm bbm nwm otm evm odm hR.hn hR.hhd hR.hon _) (cwV 0 hts gL_law_X3_givesUp rfl rfl rfl (by decide +kernel) ⟨Nat.le_of_ble_eq_true rfl, Nat.le_of_ble_eq_true rfl⟩) ⟨cPre.blind, va_recv hKc hPc (ci := 3) (q0 := 0) rfl rfl, cPre.mk hPc hKc hDc hN⟩ rfl rfl hl.1 rfl (lv_room (Nat.le_of_ble_eq_true rfl)) dL_law_533 ⟨Nat.le_of_ble_eq_true rfl, Nat.le_of_ble_eq_true rfl⟩) hS hFc (fun rv_168 u H1 locs hw_169 hP1 hD1 hk1 hS => ?_)
                                  obtain ⟨rdmv_166, bbmv_167⟩ := u
                                  try dsimp only at hw_169
                                  obtain ⟨hP2, hD2⟩ := va_join (wr := [((h 0), .inr (2, [.ref (h 1), .ref (h 3), .ref (h 7), .int on, .int asd, .ref (h 11), .ref (h 12), .int kept, .long tr])), ((h 1), .inr (1, [.ref (h 2), .int (nI len), .int pl, .int tk, .int tp])), ((h 2), .inl ((cA 2), 300, .inl by_)), ((h 3), .inr (0, [.int (nI n), .int may, .ref (h 4), .ref (h 5), .ref (h 6)])), ((h 4), .inl ((cA 4), 10, .inl hd)), ((h 5), .inl ((cA 5), 10, .inl fi)), ((h 6), .inl ((cA 6), 10, .inl un)), ((h 7), .inr (0, [.int (nI n2), .int may2, .ref (h 8), .ref (h 9), .ref (h 10)])), ((h 8), .inl ((cA 8), 10, .inl hd2)), ((h 9), .inl ((cA 9), 10, .inl fi2)), ((h 10), .inl ((cA 10), 10, .inl un2)), ((h 11), .inl ((cA 11), 2, .inl io)), ((h 12), .inl ((cA 12), 2, .inl ia))]) (w1 := (wM g cG (nI n) hdm fim unm on may asd tx (nI len) kp ko ka tr patm pfrm rhdm rifm rulm prrm prmm rdmv_166 bbmv_167 nwm otm evm odm)) hP hD [13, 14, 15, 16, 17, 18, 19, 20, 21, 22, 23, 24, 25, 26, 27, 28, 29] [0, 1, 2, 3, 4, 5, 6, 7, 8, 9, 10, 11, 12] rfl rfl (by decide) (by decide) hk1 hFc hP1 hD1
                                  have hP := hP2.sub (ws' := (wLw h cA g cG by_ (nI len) pl tk tp (nI n) may hd fi un (nI n2) may2 hd2 fi2 un2 on asd io ia kept tr (nI n) hdm fim unm on may asd tx (nI len) kp ko ka tr patm pfrm rhdm rifm rulm prrm prmm rdmv_166 bbmv_167 nwm otm evm odm)) [0, 1, 2, 3, 4, 5, 6, 7, 8, 9, 10, 11, 12, 13, 14, 15, 16, 17, 18, 19, 20, 21, 22, 23, 24, 25, 26, 27, 28, 29] rfl
                                  have hD := hD2.sub (ws' := (wLw h cA g cG by_ (nI len) pl tk tp (nI n) may hd fi un (nI n2) may2 hd2 fi2 un2 on asd io ia kept tr (nI n) hdm fim unm on may asd tx (nI len) kp ko ka tr patm pfrm rhdm rifm rulm prrm prmm rdmv_166 bbmv_167 nwm otm evm odm)) [0, 1, 2, 3, 4, 5, 6, 7, 8, 9, 10, 11, 12, 13, 14, 15, 16, 17, 18, 19, 20, 21, 22, 23, 24, 25, 26, 27, 28, 29] (by decide) rfl
                                  clear hP1 hD1 hFc hk1
                                  generalize H1 = H at hP hS ⊢
                                  refine lv_icmp_eq (tgt := 703) hx hb dL_law_536 (by decide) (fun _ => ?_) (fun hh => absurd ((q_givesUp hR  ).trans hw_169.symm) hh)
                                  refine lv_iinc (v := nI (4 * (j + 1))) (lv' := [(3, .int (nI (4 * (j + 1)))), (0, .ref b), (1, .ref (h 0)), (2, .ref (g 0))]) hx hb dL_law_703 hl (k := 3) rfl (inc4 j) (by decide) rfl (fun ls hl => ?_)
                                  refine lv_goto (tgt := 18) hx hb dL_law_706 (by decide) ?_
                                  exact ih (j + 1) (by omega) h cA g cG n len n2 by_ pl tk tp may hd fi un may2 hd2 fi2 un2 on asd io ia kept tr hdm fim unm tx kp ko ka patm pfrm rhdm rifm rulm prrm prmm rdmv_166 bbmv_167 nwm otm evm odm hR _ _ hK hP hD hS _ (lv_sub hl [1, 2, 3, 0] rfl)
                                · by_cases k_32_170 : ((xs (4 * j)) &&& 31) = 15
                                  · refine lv_tableIn (tgt := 541) hx hb dL_law_32 (by rw [k_32_170]; decide) (by rw [k_32_170]; decide) (by rw [k_32_170]; rfl) (by decide) ?_
                                    refine lv_aload_n hx hb dL_law_541 rfl (lv_at hl 1 rfl) ?_
                                    refine lv_aload_n hx hb dL_law_542 rfl (lv_at hl 0 rfl) ?_
                                    refine lv_iload_n hx hb dL_law_543 rfl (lv_at hl 3 rfl) ?_
                                    refine lv_iconst (v := 1) hx hb dL_law_544 (by decide) ?_
                                    refine lv_iadd hx hb dL_law_545 ?_
                                    refine lv_cv (nI_add (4 * j) 1) ?_
                                    refine wa_sld hx hb hX hbl hbA hS (4 * j + 1) rfl (by omega) (by omega) dL_law_546 ?_
                                    have hPc := hP.sub (ws' := (wX h cA by_ (nI len) pl tk tp (nI n) may hd fi un (nI n2) may2 hd2 fi2 un2 on asd io ia kept tr)) [0, 1, 2, 3, 4, 5, 6, 7, 8, 9, 10, 11, 12] rfl
                                    have hDc := hD.sub (ws' := (wX h cA by_ (nI len) pl tk tp (nI n) may hd fi un (nI n2) may2 hd2 fi2 un2 on asd io ia kept tr)) [0, 1, 2, 3, 4, 5, 6, 7, 8, 9, 10, 11, 12] (by decide) rfl
                                    have hKc := hK.sub (tys' := (tX h cA)) [0, 1, 2, 3, 4, 5, 6, 7, 8] rfl
                                    refine ro_i (D := D) (va_runV (As := [.int (xs (4 * j + 1))]) (rest := []) ⟨hx, hb, hml, hown, hts⟩ (c_X2_idle l D h cA n by_ (nI len) pl tk tp may hd fi un (nI n2) may2 hd2 fi2 un2 on asd io ia kept tr (xs (4 * j + 1)) hR.hn _) (cwV 1 hts gL_law_X2_idle rfl rfl rfl (by decide +kernel) ⟨Nat.le_of_ble_eq_true rfl, Nat.le_of_ble_eq_true rfl⟩) ⟨cPre.blind, va_recv hKc hPc (ci := 2) (q0 := 0) rfl rfl, cPre.mk hPc hKc hDc hN⟩ rfl rfl hl.1 rfl (lv_room (Nat.le_of_ble_eq_true rfl)) dL_law_547 ⟨Nat.le_of_ble_eq_true rfl, Nat.le_of_ble_eq_true rfl⟩) hS hA (fun H locs hkp0 hS => ?_)
                                    replace hP := hkp0 _ hP
                                    refine lv_aload_n hx hb dL_law_550 rfl (lv_at hl 2 rfl) ?_
                                    refine lv_aload_n hx hb dL_law_551 rfl (lv_at hl 0 rfl) ?_
                                    refine lv_iload_n hx hb dL_law_552 rfl (lv_at hl 3 rfl) ?_
                                    refine lv_iconst (v := 1) hx hb dL_law_553 (by decide) ?_
                                    refine lv_iadd hx hb dL_law_554 ?_
                                    refine lv_cv (nI_add (4 * j) 1) ?_
                                    refine wa_sld hx hb hX hbl hbA hS (4 * j + 1) rfl (by omega) (by omega) dL_law_555 ?_
                                    have hPc := hP.sub (ws' := (wM g cG (nI n) hdm fim unm on may asd tx (nI len) kp ko ka tr patm pfrm rhdm rifm rulm prrm prmm rdm bbm nwm otm evm odm)) [13, 14, 15, 16, 17, 18, 19, 20, 21, 22, 23, 24, 25, 26, 27, 28, 29] rfl
                                    have hDc := hD.sub (ws' := (wM g cG (nI n) hdm fim unm on may asd tx (nI len) kp ko ka tr patm pfrm rhdm rifm rulm prrm prmm rdm bbm nwm otm evm odm)) [13, 14, 15, 16, 17, 18, 19, 20, 21, 22, 23, 24, 25, 26, 27, 28, 29] (by decide) rfl
                                    have hKc := hK.sub (tys' := (tM g cG)) [9, 10, 11, 12, 13, 14, 15, 16, 17, 18, 19, 20, 21, 22, 23, 24] rfl
                                    have hFc := va_free (wc := (wM g cG (nI n) hdm fim unm on may asd tx (nI len) kp ko ka tr patm pfrm rhdm rifm rulm prrm prmm rdm bbm nwm otm evm odm)) hD hS hA [13, 14, 15, 16, 17, 18, 19, 20, 21, 22, 23, 24, 25, 26, 27, 28, 29] rfl
                                    refine rw_i (D := D) (wc := (wM g cG (nI n) hdm fim unm on may asd tx (nI len) kp ko ka tr patm pfrm rhdm rifm rulm prrm prmm rdm bbm nwm otm evm odm)) (va_runV (As := [.int (xs (4 * j + 1))]) (rest := [.int (s_X2_idle n may hd fi un on asd (xs (4 * j + 1)))]) ⟨hx, hb, hml, hown, hts⟩ (c_X3_idle l D g cG n hdm fim unm on may asd tx (nI len) kp ko ka tr patm pfrm rhdm rifm rulm prrm prmm rdm bbm nwm otm evm odm (xs (4 * j + 1)) hR.hn hR.hhd _) (cwV 1 hts gL_law_X3_idle rfl rfl rfl (by decide +kernel) ⟨Nat.le_of_ble_eq_true rfl, Nat.le_of_ble_eq_true rfl⟩) ⟨cPre.blind, va_recv hKc hPc (ci := 3) (q0 := 0) rfl rfl, cPre.mk hPc hKc hDc hN⟩ rfl rfl hl.1 rfl (lv_room (Nat.le_of_ble_eq_true rfl)) dL_law_556 ⟨Nat.le_of_ble_eq_true rfl, Nat.le_of_ble_eq_true rfl⟩) hS hFc (fun rv_175 u H1 locs hw_176 hP1 hD1 hk1 hS => ?_)
                                    obtain ⟨rdmv_171, bbmv_172, nwmv_173, otmv_174⟩ := u
                                    try dsimp only at hw_176
                                    obtain ⟨hP2, hD2⟩ := va_join (wr := [((h 0), .inr (2, [.ref (h 1), .ref (h 3), .ref (h 7), .int on, .int asd, .ref (h 11), .ref (h 12), .int kept, .long tr])), ((h 1), .inr (1, [.ref (h 2), .int (nI len), .int pl, .int tk, .int tp])), ((h 2), .inl ((cA 2), 300, .inl by_)), ((h 3), .inr (0, [.int (nI n), .int may, .ref (h 4), .ref (h 5), .ref (h 6)])), ((h 4), .inl ((cA 4), 10, .inl hd)), ((h 5), .inl ((cA 5), 10, .inl fi)), ((h 6), .inl ((cA 6), 10, .inl un)), ((h 7), .inr (0, [.int (nI n2), .int may2, .ref (h 8), .ref (h 9), .ref (h 10)])), ((h 8), .inl ((cA 8), 10, .inl hd2)), ((h 9), .inl ((cA 9), 10, .inl fi2)), ((h 10), .inl ((cA 10), 10, .inl un2)), ((h 11), .inl ((cA 11), 2, .inl io)), ((h 12), .inl ((cA 12), 2, .inl ia))]) (w1 := (wM g cG (nI n) hdm fim unm on may asd tx (nI len) kp ko ka tr patm pfrm rhdm rifm rulm prrm prmm rdmv_171 bbmv_172 nwmv_173 otmv_174 evm odm)) hP hD [13, 14, 15, 16, 17, 18, 19, 20, 21, 22, 23, 24, 25, 26, 27, 28, 29] [0, 1, 2, 3, 4, 5, 6, 7, 8, 9, 10, 11, 12] rfl rfl (by decide) (by decide) hk1 hFc hP1 hD1
                                    have hP := hP2.sub (ws' := (wLw h cA g cG by_ (nI len) pl tk tp (nI n) may hd fi un (nI n2) may2 hd2 fi2 un2 on asd io ia kept tr (nI n) hdm fim unm on may asd tx (nI len) kp ko ka tr patm pfrm rhdm rifm rulm prrm prmm rdmv_171 bbmv_172 nwmv_173 otmv_174 evm odm)) [0, 1, 2, 3, 4, 5, 6, 7, 8, 9, 10, 11, 12, 13, 14, 15, 16, 17, 18, 19, 20, 21, 22, 23, 24, 25, 26, 27, 28, 29] rfl
                                    have hD := hD2.sub (ws' := (wLw h cA g cG by_ (nI len) pl tk tp (nI n) may hd fi un (nI n2) may2 hd2 fi2 un2 on asd io ia kept tr (nI n) hdm fim unm on may asd tx (nI len) kp ko ka tr patm pfrm rhdm rifm rulm prrm prmm rdmv_171 bbmv_172 nwmv_173 otmv_174 evm odm)) [0, 1, 2, 3, 4, 5, 6, 7, 8, 9, 10, 11, 12, 13, 14, 15, 16, 17, 18, 19, 20, 21, 22, 23, 24, 25, 26, 27, 28, 29] (by decide) rfl
                                    clear hP1 hD1 hFc hk1
                                    generalize H1 = H at hP hS ⊢
                                    refine lv_icmp_eq (tgt := 703) hx hb dL_law_559 (by decide) (fun _ => ?_) (fun hh => absurd ((q_idle hR nwm otm (xs (4 * j + 1))).trans hw_176.symm) hh)
                                    refine lv_iinc (v := nI (4 * (j + 1))) (lv' := [(3, .int (nI (4 * (j + 1)))), (0, .ref b), (1, .ref (h 0)), (2, .ref (g 0))]) hx hb dL_law_703 hl (k := 3) rfl (inc4 j) (by decide) rfl (fun ls hl => ?_)
                                    refine lv_goto (tgt := 18) hx hb dL_law_706 (by decide) ?_
                                    exact ih (j + 1) (by omega) h cA g cG n len n2 by_ pl tk tp may hd fi un may2 hd2 fi2 un2 on asd io ia kept tr hdm fim unm tx kp ko ka patm pfrm rhdm rifm rulm prrm prmm rdmv_171 bbmv_172 nwmv_173 otmv_174 evm odm hR _ _ hK hP hD hS _ (lv_sub hl [1, 2, 3, 0] rfl)
                                  · by_cases k_32_177 : ((xs (4 * j)) &&& 31) = 16
                                    · refine lv_tableIn (tgt := 564) hx hb dL_law_32 (by rw [k_32_177]; decide) (by rw [k_32_177]; decide) (by rw [k_32_177]; rfl) (by decide) ?_
                                      refine lv_aload_n hx hb dL_law_564 rfl (lv_at hl 1 rfl) ?_
                                      refine lv_aload_n hx hb dL_law_565 rfl (lv_at hl 0 rfl) ?_
                                      refine lv_iload_n hx hb dL_law_566 rfl (lv_at hl 3 rfl) ?_
                                      refine lv_iconst (v := 1) hx hb dL_law_567 (by decide) ?_
                                      refine lv_iadd hx hb dL_law_568 ?_
                                      refine lv_cv (nI_add (4 * j) 1) ?_
                                      refine wa_sld hx hb hX hbl hbA hS (4 * j + 1) rfl (by omega) (by omega) dL_law_569 ?_
                                      have hPc := hP.sub (ws' := (wX h cA by_ (nI len) pl tk tp (nI n) may hd fi un (nI n2) may2 hd2 fi2 un2 on asd io ia kept tr)) [0, 1, 2, 3, 4, 5, 6, 7, 8, 9, 10, 11, 12] rfl
                                      have hDc := hD.sub (ws' := (wX h cA by_ (nI len) pl tk tp (nI n) may hd fi un (nI n2) may2 hd2 fi2 un2 on asd io ia kept tr)) [0, 1, 2, 3, 4, 5, 6, 7, 8, 9, 10, 11, 12] (by decide) rfl
                                      have hKc := hK.sub (tys' := (tX h cA)) [0, 1, 2, 3, 4, 5, 6, 7, 8] rfl
                                      refine ro_i (D := D) (va_runV (As := [.int (xs (4 * j + 1))]) (rest := []) ⟨hx, hb, hml, hown, hts⟩ (c_X2_alike l D h cA n by_ (nI len) pl tk tp may hd fi un (nI n2) may2 hd2 fi2 un2 on asd io ia kept tr (xs (4 * j + 1)) hR.hn _) (cwV 1 hts gL_law_X2_alike rfl rfl rfl (by decide +kernel) ⟨Nat.le_of_ble_eq_true rfl, Nat.le_of_ble_eq_true rfl⟩) ⟨cPre.blind, va_recv hKc hPc (ci := 2) (q0 := 0) rfl rfl, cPre.mk hPc hKc hDc hN⟩ rfl rfl hl.1 rfl (lv_room (Nat.le_of_ble_eq_true rfl)) dL_law_570 ⟨Nat.le_of_ble_eq_true rfl, Nat.le_of_ble_eq_true rfl⟩) hS hA (fun H locs hkp0 hS => ?_)
                                      replace hP := hkp0 _ hP
                                      refine lv_aload_n hx hb dL_law_573 rfl (lv_at hl 2 rfl) ?_
                                      refine lv_aload_n hx hb dL_law_574 rfl (lv_at hl 0 rfl) ?_
                                      refine lv_iload_n hx hb dL_law_575 rfl (lv_at hl 3 rfl) ?_
                                      refine lv_iconst (v := 1) hx hb dL_law_576 (by decide) ?_
                                      refine lv_iadd hx hb dL_law_577 ?_
                                      refine lv_cv (nI_add (4 * j) 1) ?_
                                      refine wa_sld hx hb hX hbl hbA hS (4 * j + 1) rfl (by omega) (by omega) dL_law_578 ?_
                                      have hPc := hP.sub (ws' := (wM g cG (nI n) hdm fim unm on may asd tx (nI len) kp ko ka tr patm pfrm rhdm rifm rulm prrm prmm rdm bbm nwm otm evm odm)) [13, 14, 15, 16, 17, 18, 19, 20, 21, 22, 23, 24, 25, 26, 27, 28, 29] rfl
                                      have hDc := hD.sub (ws' := (wM g cG (nI n) hdm fim unm on may asd tx (nI len) kp ko ka tr patm pfrm rhdm rifm rulm prrm prmm rdm bbm nwm otm evm odm)) [13, 14, 15, 16, 17, 18, 19, 20, 21, 22, 23, 24, 25, 26, 27, 28, 29] (by decide) rfl
                                      have hKc := hK.sub (tys' := (tM g cG)) [9, 10, 11, 12, 13, 14, 15, 16, 17, 18, 19, 20, 21, 22, 23, 24] rfl
                                      have hFc := va_free (wc := (wM g cG (nI n) hdm fim unm on may asd tx (nI len) kp ko ka tr patm pfrm rhdm rifm rulm prrm prmm rdm bbm nwm otm evm odm)) hD hS hA [13, 14, 15, 16, 17, 18, 19, 20, 21, 22, 23, 24, 25, 26, 27, 28, 29] rfl
                                      refine rw_i (D := D) (wc := (wM g cG (nI n) hdm fim unm on may asd tx (nI len) kp ko ka tr patm pfrm rhdm rifm rulm prrm prmm rdm bbm nwm otm evm odm)) (va_runV (As := [.int (xs (4 * j + 1))]) (rest := [.int (s_X2_alike n may hd fi un on asd io ia kept (xs (4 * j + 1)))]) ⟨hx, hb, hml, hown, hts⟩ (c_X3_alike l D g cG n hdm fim unm on may asd tx (nI len) kp ko ka tr patm pfrm rhdm rifm rulm prrm prmm rdm bbm nwm otm evm odm (xs (4 * j + 1)) hR.hn hR.hhd _) (cwV 1 hts gL_law_X3_alike rfl rfl rfl (by decide +kernel) ⟨Nat.le_of_ble_eq_true rfl, Nat.le_of_ble_eq_true rfl⟩) ⟨cPre.blind, va_recv hKc hPc (ci := 3) (q0 := 0) rfl rfl, cPre.mk hPc hKc hDc hN⟩ rfl rfl hl.1 rfl (lv_room (Nat.le_of_ble_eq_true rfl)) dL_law_579 ⟨Nat.le_of_ble_eq_true rfl, Nat.le_of_ble_eq_true rfl⟩) hS hFc (fun rv_182 u H1 locs hw_183 hP1 hD1 hk1 hS => ?_)
                                      obtain ⟨rdmv_178, bbmv_179, nwmv_180, otmv_181⟩ := u
                                      try dsimp only at hw_183
                                      obtain ⟨hP2, hD2⟩ := va_join (wr := [((h 0), .inr (2, [.ref (h 1), .ref (h 3), .ref (h 7), .int on, .int asd, .ref (h 11), .ref (h 12), .int kept, .long tr])), ((h 1), .inr (1, [.ref (h 2), .int (nI len), .int pl, .int tk, .int tp])), ((h 2), .inl ((cA 2), 300, .inl by_)), ((h 3), .inr (0, [.int (nI n), .int may, .ref (h 4), .ref (h 5), .ref (h 6)])), ((h 4), .inl ((cA 4), 10, .inl hd)), ((h 5), .inl ((cA 5), 10, .inl fi)), ((h 6), .inl ((cA 6), 10, .inl un)), ((h 7), .inr (0, [.int (nI n2), .int may2, .ref (h 8), .ref (h 9), .ref (h 10)])), ((h 8), .inl ((cA 8), 10, .inl hd2)), ((h 9), .inl ((cA 9), 10, .inl fi2)), ((h 10), .inl ((cA 10), 10, .inl un2)), ((h 11), .inl ((cA 11), 2, .inl io)), ((h 12), .inl ((cA 12), 2, .inl ia))]) (w1 := (wM g cG (nI n) hdm fim unm on may asd tx (nI len) kp ko ka tr patm pfrm rhdm rifm rulm prrm prmm rdmv_178 bbmv_179 nwmv_180 otmv_181 evm odm)) hP hD [13, 14, 15, 16, 17, 18, 19, 20, 21, 22, 23, 24, 25, 26, 27, 28, 29] [0, 1, 2, 3, 4, 5, 6, 7, 8, 9, 10, 11, 12] rfl rfl (by decide) (by decide) hk1 hFc hP1 hD1
                                      have hP := hP2.sub (ws' := (wLw h cA g cG by_ (nI len) pl tk tp (nI n) may hd fi un (nI n2) may2 hd2 fi2 un2 on asd io ia kept tr (nI n) hdm fim unm on may asd tx (nI len) kp ko ka tr patm pfrm rhdm rifm rulm prrm prmm rdmv_178 bbmv_179 nwmv_180 otmv_181 evm odm)) [0, 1, 2, 3, 4, 5, 6, 7, 8, 9, 10, 11, 12, 13, 14, 15, 16, 17, 18, 19, 20, 21, 22, 23, 24, 25, 26, 27, 28, 29] rfl
                                      have hD := hD2.sub (ws' := (wLw h cA g cG by_ (nI len) pl tk tp (nI n) may hd fi un (nI n2) may2 hd2 fi2 un2 on asd io ia kept tr (nI n) hdm fim unm on may asd tx (nI len) kp ko ka tr patm pfrm rhdm rifm rulm prrm prmm rdmv_178 bbmv_179 nwmv_180 otmv_181 evm odm)) [0, 1, 2, 3, 4, 5, 6, 7, 8, 9, 10, 11, 12, 13, 14, 15, 16, 17, 18, 19, 20, 21, 22, 23, 24, 25, 26, 27, 28, 29] (by decide) rfl
                                      clear hP1 hD1 hFc hk1
                                      generalize H1 = H at hP hS ⊢
                                      refine lv_icmp_eq (tgt := 703) hx hb dL_law_582 (by decide) (fun _ => ?_) (fun hh => absurd ((q_alike hR nwm otm (xs (4 * j + 1))).trans hw_183.symm) hh)
                                      refine lv_iinc (v := nI (4 * (j + 1))) (lv' := [(3, .int (nI (4 * (j + 1)))), (0, .ref b), (1, .ref (h 0)), (2, .ref (g 0))]) hx hb dL_law_703 hl (k := 3) rfl (inc4 j) (by decide) rfl (fun ls hl => ?_)
                                      refine lv_goto (tgt := 18) hx hb dL_law_706 (by decide) ?_
                                      exact ih (j + 1) (by omega) h cA g cG n len n2 by_ pl tk tp may hd fi un may2 hd2 fi2 un2 on asd io ia kept tr hdm fim unm tx kp ko ka patm pfrm rhdm rifm rulm prrm prmm rdmv_178 bbmv_179 nwmv_180 otmv_181 evm odm hR _ _ hK hP hD hS _ (lv_sub hl [1, 2, 3, 0] rfl)
                                    · by_cases k_32_184 : ((xs (4 * j)) &&& 31) = 17
                                      · refine lv_tableIn (tgt := 587) hx hb dL_law_32 (by rw [k_32_184]; decide) (by rw [k_32_184]; decide) (by rw [k_32_184]; rfl) (by decide) ?_
                                        refine lv_aload_n hx hb dL_law_587 rfl (lv_at hl 1 rfl) ?_
                                        refine lv_aload_n hx hb dL_law_588 rfl (lv_at hl 0 rfl) ?_
                                        refine lv_iload_n hx hb dL_law_589 rfl (lv_at hl 3 rfl) ?_
                                        refine lv_iconst (v := 1) hx hb dL_law_590 (by decide) ?_
                                        refine lv_iadd hx hb dL_law_591 ?_
                                        refine lv_cv (nI_add (4 * j) 1) ?_
                                        refine wa_sld hx hb hX hbl hbA hS (4 * j + 1) rfl (by omega) (by omega) dL_law_592 ?_
                                        refine lv_aload_n hx hb dL_law_593 rfl (lv_at hl 0 rfl) ?_
                                        refine lv_iload_n hx hb dL_law_594 rfl (lv_at hl 3 rfl) ?_
                                        refine lv_iconst (v := 2) hx hb dL_law_595 (by decide) ?_
                                        refine lv_iadd hx hb dL_law_596 ?_
                                        refine lv_cv (nI_add (4 * j) 2) ?_
                                        refine wa_sld hx hb hX hbl hbA hS (4 * j + 2) rfl (by omega) (by omega) dL_law_597 ?_
                                        have hPc := hP.sub (ws' := (wX h cA by_ (nI len) pl tk tp (nI n) may hd fi un (nI n2) may2 hd2 fi2 un2 on asd io ia kept tr)) [0, 1, 2, 3, 4, 5, 6, 7, 8, 9, 10, 11, 12] rfl
                                        have hDc := hD.sub (ws' := (wX h cA by_ (nI len) pl tk tp (nI n) may hd fi un (nI n2) may2 hd2 fi2 un2 on asd io ia kept tr)) [0, 1, 2, 3, 4, 5, 6, 7, 8, 9, 10, 11, 12] (by decide) rfl
                                        have hKc := hK.sub (tys' := (tX h cA)) [0, 1, 2, 3, 4, 5, 6, 7, 8] rfl
                                        have hFc := va_free (wc := (wX h cA by_ (nI len) pl tk tp (nI n) may hd fi un (nI n2) may2 hd2 fi2 un2 on asd io ia kept tr)) hD hS hA [0, 1, 2, 3, 4, 5, 6, 7, 8, 9, 10, 11, 12] rfl
                                        refine rw_i (D := D) (wc := (wX h cA by_ (nI len) pl tk tp (nI n) may hd fi un (nI n2) may2 hd2 fi2 un2 on asd io ia kept tr)) (va_runV (As := [.int (xs (4 * j + 1)), .int (xs (4 * j + 2))]) (rest := []) ⟨hx, hb, hml, hown, hts⟩ (c_X2_mark l D h cA n by_ (nI len) pl tk tp may hd fi un (nI n2) may2 hd2 fi2 un2 on asd io ia kept tr (xs (4 * j + 1)) (xs (4 * j + 2)) hR.hn _) (cwV 2 hts gL_law_X2_mark rfl rfl rfl (by decide +kernel) ⟨Nat.le_of_ble_eq_true rfl, Nat.le_of_ble_eq_true rfl⟩) ⟨cPre.blind, va_recv hKc hPc (ci := 2) (q0 := 0) rfl rfl, cPre.mk hPc hKc hDc hN⟩ rfl rfl hl.1 rfl (lv_room (Nat.le_of_ble_eq_true rfl)) dL_law_598 ⟨Nat.le_of_ble_eq_true rfl, Nat.le_of_ble_eq_true rfl⟩) hS hFc (fun rv_186 u H1 locs hw_187 hP1 hD1 hk1 hS => ?_)
                                        obtain ⟨trv_185, rfl⟩ : ∃ y, y = u := ⟨_, rfl⟩
                                        try dsimp only at hw_187
                                        obtain ⟨hP2, hD2⟩ := va_join (wr := [((g 0), .inr (3, [.int (nI n), .ref (g 1), .ref (g 2), .ref (g 3), .int on, .int may, .int asd, .ref (g 4), .int (nI len), .ref (g 5), .ref (g 6), .ref (g 7), .long tr, .int patm, .int pfrm, .ref (g 8), .ref (g 9), .ref (g 10), .int prrm, .int prmm, .ref (g 11), .ref (g 12), .ref (g 13), .ref (g 14), .ref (g 15), .ref (g 16)])), ((g 1), .inl ((cG 1), 10, .inl hdm)), ((g 2), .inl ((cG 2), 10, .inl fim)), ((g 3), .inl ((cG 3), 10, .inl unm)), ((g 4), .inl ((cG 4), 300, .inl tx)), ((g 5), .inl ((cG 5), 2, .inl kp)), ((g 6), .inl ((cG 6), 2, .inl ko)), ((g 7), .inl ((cG 7), 2, .inl ka)), ((g 8), .inl ((cG 8), 10, .inl rhdm)), ((g 9), .inl ((cG 9), 10, .inl rifm)), ((g 10), .inl ((cG 10), 10, .inl rulm)), ((g 11), .inl ((cG 11), 8, .inl rdm)), ((g 12), .inl ((cG 12), 8, .inl bbm)), ((g 13), .inl ((cG 13), 8, .inl nwm)), ((g 14), .inl ((cG 14), 8, .inl otm)), ((g 15), .inl ((cG 15), 8, .inl evm)), ((g 16), .inl ((cG 16), 8, .inl odm))]) (w1 := (wX h cA by_ (nI len) pl tk tp (nI n) may hd fi un (nI n2) may2 hd2 fi2 un2 on asd io ia kept trv_185)) hP hD [0, 1, 2, 3, 4, 5, 6, 7, 8, 9, 10, 11, 12] [13, 14, 15, 16, 17, 18, 19, 20, 21, 22, 23, 24, 25, 26, 27, 28, 29] rfl rfl (by decide) (by decide) hk1 hFc hP1 hD1
                                        have hP := hP2.sub (ws' := (wLw h cA g cG by_ (nI len) pl tk tp (nI n) may hd fi un (nI n2) may2 hd2 fi2 un2 on asd io ia kept trv_185 (nI n) hdm fim unm on may asd tx (nI len) kp ko ka tr patm pfrm rhdm rifm rulm prrm prmm rdm bbm nwm otm evm odm)) [17, 18, 19, 20, 21, 22, 23, 24, 25, 26, 27, 28, 29, 0, 1, 2, 3, 4, 5, 6, 7, 8, 9, 10, 11, 12, 13, 14, 15, 16] rfl
                                        have hD := hD2.sub (ws' := (wLw h cA g cG by_ (nI len) pl tk tp (nI n) may hd fi un (nI n2) may2 hd2 fi2 un2 on asd io ia kept trv_185 (nI n) hdm fim unm on may asd tx (nI len) kp ko ka tr patm pfrm rhdm rifm rulm prrm prmm rdm bbm nwm otm evm odm)) [17, 18, 19, 20, 21, 22, 23, 24, 25, 26, 27, 28, 29, 0, 1, 2, 3, 4, 5, 6, 7, 8, 9, 10, 11, 12, 13, 14, 15, 16] (by decide) rfl
                                        clear hP1 hD1 hFc hk1
                                        generalize H1 = H at hP hS ⊢
                                        refine lv_aload_n hx hb dL_law_601 rfl (lv_at hl 2 rfl) ?_
                                        refine lv_aload_n hx hb dL_law_602 rfl (lv_at hl 0 rfl) ?_
                                        refine lv_iload_n hx hb dL_law_603 rfl (lv_at hl 3 rfl) ?_
                                        refine lv_iconst (v := 1) hx hb dL_law_604 (by decide) ?_
                                        refine lv_iadd hx hb dL_law_605 ?_
                                        refine lv_cv (nI_add (4 * j) 1) ?_
                                        refine wa_sld hx hb hX hbl hbA hS (4 * j + 1) rfl (by omega) (by omega) dL_law_606 ?_
                                        refine lv_aload_n hx hb dL_law_607 rfl (lv_at hl 0 rfl) ?_
                                        refine lv_iload_n hx hb dL_law_608 rfl (lv_at hl 3 rfl) ?_
                                        refine lv_iconst (v := 2) hx hb dL_law_609 (by decide) ?_
                                        refine lv_iadd hx hb dL_law_610 ?_
                                        refine lv_cv (nI_add (4 * j) 2) ?_
                                        refine wa_sld hx hb hX hbl hbA hS (4 * j + 2) rfl (by omega) (by omega) dL_law_611 ?_
                                        have hPc := hP.sub (ws' := (wM g cG (nI n) hdm fim unm on may asd tx (nI len) kp ko ka tr patm pfrm rhdm rifm rulm prrm prmm rdm bbm nwm otm evm odm)) [13, 14, 15, 16, 17, 18, 19, 20, 21, 22, 23, 24, 25, 26, 27, 28, 29] rfl
                                        have hDc := hD.sub (ws' := (wM g cG (nI n) hdm fim unm on may asd tx (nI len) kp ko ka tr patm pfrm rhdm rifm rulm prrm prmm rdm bbm nwm otm evm odm)) [13, 14, 15, 16, 17, 18, 19, 20, 21, 22, 23, 24, 25, 26, 27, 28, 29] (by decide) rfl
                                        have hKc := hK.sub (tys' := (tM g cG)) [9, 10, 11, 12, 13, 14, 15, 16, 17, 18, 19, 20, 21, 22, 23, 24] rfl
                                        have hFc := va_free (wc := (wM g cG (nI n) hdm fim unm on may asd tx (nI len) kp ko ka tr patm pfrm rhdm rifm rulm prrm prmm rdm bbm nwm otm evm odm)) hD hS hA [13, 14, 15, 16, 17, 18, 19, 20, 21, 22, 23, 24, 25, 26, 27, 28, 29] rfl
                                        refine rw_i (D := D) (wc := (wM g cG (nI n) hdm fim unm on may asd tx (nI len) kp ko ka tr patm pfrm rhdm rifm rulm prrm prmm rdm bbm nwm otm evm odm)) (va_runV (As := [.int (xs (4 * j + 1)), .int (xs (4 * j + 2))]) (rest := [.int rv_186]) ⟨hx, hb, hml, hown, hts⟩ (c_X3_mark l D g cG n hdm fim unm on may asd tx (nI len) kp ko ka tr patm pfrm rhdm rifm rulm prrm prmm rdm bbm nwm otm evm odm (xs (4 * j + 1)) (xs (4 * j + 2)) hR.hn _) (cwV 2 hts gL_law_X3_mark rfl rfl rfl (by decide +kernel) ⟨Nat.le_of_ble_eq_true rfl, Nat.le_of_ble_eq_true rfl⟩) ⟨cPre.blind, va_recv hKc hPc (ci := 3) (q0 := 0) rfl rfl, cPre.mk hPc hKc hDc hN⟩ rfl rfl hl.1 rfl (lv_room (Nat.le_of_ble_eq_true rfl)) dL_law_612 ⟨Nat.le_of_ble_eq_true rfl, Nat.le_of_ble_eq_true rfl⟩) hS hFc (fun rv_189 u H1 locs hw_190 hP1 hD1 hk1 hS => ?_)
                                        obtain ⟨trmv_188, rfl⟩ : ∃ y, y = u := ⟨_, rfl⟩
                                        try dsimp only at hw_190
                                        obtain ⟨hP2, hD2⟩ := va_join (wr := [((h 0), .inr (2, [.ref (h 1), .ref (h 3), .ref (h 7), .int on, .int asd, .ref (h 11), .ref (h 12), .int kept, .long trv_185])), ((h 1), .inr (1, [.ref (h 2), .int (nI len), .int pl, .int tk, .int tp])), ((h 2), .inl ((cA 2), 300, .inl by_)), ((h 3), .inr (0, [.int (nI n), .int may, .ref (h 4), .ref (h 5), .ref (h 6)])), ((h 4), .inl ((cA 4), 10, .inl hd)), ((h 5), .inl ((cA 5), 10, .inl fi)), ((h 6), .inl ((cA 6), 10, .inl un)), ((h 7), .inr (0, [.int (nI n2), .int may2, .ref (h 8), .ref (h 9), .ref (h 10)])), ((h 8), .inl ((cA 8), 10, .inl hd2)), ((h 9), .inl ((cA 9), 10, .inl fi2)), ((h 10), .inl ((cA 10), 10, .inl un2)), ((h 11), .inl ((cA 11), 2, .inl io)), ((h 12), .inl ((cA 12), 2, .inl ia))]) (w1 := (wM g cG (nI n) hdm fim unm on may asd tx (nI len) kp ko ka trmv_188 patm pfrm rhdm rifm rulm prrm prmm rdm bbm nwm otm evm odm)) hP hD [13, 14, 15, 16, 17, 18, 19, 20, 21, 22, 23, 24, 25, 26, 27, 28, 29] [0, 1, 2, 3, 4, 5, 6, 7, 8, 9, 10, 11, 12] rfl rfl (by decide) (by decide) hk1 hFc hP1 hD1
                                        have hP := hP2.sub (ws' := (wLw h cA g cG by_ (nI len) pl tk tp (nI n) may hd fi un (nI n2) may2 hd2 fi2 un2 on asd io ia kept trv_185 (nI n) hdm fim unm on may asd tx (nI len) kp ko ka trmv_188 patm pfrm rhdm rifm rulm prrm prmm rdm bbm nwm otm evm odm)) [0, 1, 2, 3, 4, 5, 6, 7, 8, 9, 10, 11, 12, 13, 14, 15, 16, 17, 18, 19, 20, 21, 22, 23, 24, 25, 26, 27, 28, 29] rfl
                                        have hD := hD2.sub (ws' := (wLw h cA g cG by_ (nI len) pl tk tp (nI n) may hd fi un (nI n2) may2 hd2 fi2 un2 on asd io ia kept trv_185 (nI n) hdm fim unm on may asd tx (nI len) kp ko ka trmv_188 patm pfrm rhdm rifm rulm prrm prmm rdm bbm nwm otm evm odm)) [0, 1, 2, 3, 4, 5, 6, 7, 8, 9, 10, 11, 12, 13, 14, 15, 16, 17, 18, 19, 20, 21, 22, 23, 24, 25, 26, 27, 28, 29] (by decide) rfl
                                        clear hP1 hD1 hFc hk1
                                        generalize H1 = H at hP hS ⊢
                                        obtain ⟨eq_191, eq_192, hR_193⟩ := q_mark hR hw_187 hw_190
                                        subst eq_192
                                        refine lv_icmp_eq (tgt := 703) hx hb dL_law_615 (by decide) (fun _ => ?_) (fun hh => absurd eq_191 hh)
                                        refine lv_iinc (v := nI (4 * (j + 1))) (lv' := [(3, .int (nI (4 * (j + 1)))), (0, .ref b), (1, .ref (h 0)), (2, .ref (g 0))]) hx hb dL_law_703 hl (k := 3) rfl (inc4 j) (by decide) rfl (fun ls hl => ?_)
                                        refine lv_goto (tgt := 18) hx hb dL_law_706 (by decide) ?_
                                        exact ih (j + 1) (by omega) h cA g cG n len n2 by_ pl tk tp may hd fi un may2 hd2 fi2 un2 on asd io ia kept trv_185 hdm fim unm tx kp ko ka patm pfrm rhdm rifm rulm prrm prmm rdm bbm nwm otm evm odm hR_193 _ _ hK hP hD hS _ (lv_sub hl [1, 2, 3, 0] rfl)
                                      · by_cases k_32_194 : ((xs (4 * j)) &&& 31) = 18
                                        · refine lv_tableIn (tgt := 620) hx hb dL_law_32 (by rw [k_32_194]; decide) (by rw [k_32_194]; decide) (by rw [k_32_194]; rfl) (by decide) ?_
                                          refine lv_aload_n hx hb dL_law_620 rfl (lv_at hl 1 rfl) ?_
                                          refine lv_aload_n hx hb dL_law_621 rfl (lv_at hl 0 rfl) ?_
                                          refine lv_iload_n hx hb dL_law_622 rfl (lv_at hl 3 rfl) ?_
                                          refine lv_iconst (v := 1) hx hb dL_law_623 (by decide) ?_
                                          refine lv_iadd hx hb dL_law_624 ?_
                                          refine lv_cv (nI_add (4 * j) 1) ?_
                                          refine wa_sld hx hb hX hbl hbA hS (4 * j + 1) rfl (by omega) (by omega) dL_law_625 ?_
                                          have hPc := hP.sub (ws' := (wX h cA by_ (nI len) pl tk tp (nI n) may hd fi un (nI n2) may2 hd2 fi2 un2 on asd io ia kept tr)) [0, 1, 2, 3, 4, 5, 6, 7, 8, 9, 10, 11, 12] rfl
                                          have hDc := hD.sub (ws' := (wX h cA by_ (nI len) pl tk tp (nI n) may hd fi un (nI n2) may2 hd2 fi2 un2 on asd io ia kept tr)) [0, 1, 2, 3, 4, 5, 6, 7, 8, 9, 10, 11, 12] (by decide) rfl
                                          have hKc := hK.sub (tys' := (tX h cA)) [0, 1, 2, 3, 4, 5, 6, 7, 8] rfl
                                          have hFc := va_free (wc := (wX h cA by_ (nI len) pl tk tp (nI n) may hd fi un (nI n2) may2 hd2 fi2 un2 on asd io ia kept tr)) hD hS hA [0, 1, 2, 3, 4, 5, 6, 7, 8, 9, 10, 11, 12] rfl
                                          refine rw_i (D := D) (wc := (wX h cA by_ (nI len) pl tk tp (nI n) may hd fi un (nI n2) may2 hd2 fi2 un2 on asd io ia kept tr)) (va_runV (As := [.int (xs (4 * j + 1))]) (rest := []) ⟨hx, hb, hml, hown, hts⟩ (c_X2_keep l D h cA n by_ (nI len) pl tk tp may hd fi un (nI n2) may2 hd2 fi2 un2 on asd io ia kept tr (xs (4 * j + 1)) hR.hn _) (cwV 1 hts gL_law_X2_keep rfl rfl rfl (by decide +kernel) ⟨Nat.le_of_ble_eq_true rfl, Nat.le_of_ble_eq_true rfl⟩) ⟨cPre.blind, va_recv hKc hPc (ci := 2) (q0 := 0) rfl rfl, cPre.mk hPc hKc hDc hN⟩ rfl rfl hl.1 rfl (lv_room (Nat.le_of_ble_eq_true rfl)) dL_law_626 ⟨Nat.le_of_ble_eq_true rfl, Nat.le_of_ble_eq_true rfl⟩) hS hFc (fun rv_198 u H1 locs hw_199 hP1 hD1 hk1 hS => ?_)
                                          obtain ⟨iov_195, iav_196, keptv_197⟩ := u
                                          try dsimp only at hw_199
                                          obtain ⟨hP2, hD2⟩ := va_join (wr := [((g 0), .inr (3, [.int (nI n), .ref (g 1), .ref (g 2), .ref (g 3), .int on, .int may, .int asd, .ref (g 4), .int (nI len), .ref (g 5), .ref (g 6), .ref (g 7), .long tr, .int patm, .int pfrm, .ref (g 8), .ref (g 9), .ref (g 10), .int prrm, .int prmm, .ref (g 11), .ref (g 12), .ref (g 13), .ref (g 14), .ref (g 15), .ref (g 16)])), ((g 1), .inl ((cG 1), 10, .inl hdm)), ((g 2), .inl ((cG 2), 10, .inl fim)), ((g 3), .inl ((cG 3), 10, .inl unm)), ((g 4), .inl ((cG 4), 300, .inl tx)), ((g 5), .inl ((cG 5), 2, .inl kp)), ((g 6), .inl ((cG 6), 2, .inl ko)), ((g 7), .inl ((cG 7), 2, .inl ka)), ((g 8), .inl ((cG 8), 10, .inl rhdm)), ((g 9), .inl ((cG 9), 10, .inl rifm)), ((g 10), .inl ((cG 10), 10, .inl rulm)), ((g 11), .inl ((cG 11), 8, .inl rdm)), ((g 12), .inl ((cG 12), 8, .inl bbm)), ((g 13), .inl ((cG 13), 8, .inl nwm)), ((g 14), .inl ((cG 14), 8, .inl otm)), ((g 15), .inl ((cG 15), 8, .inl evm)), ((g 16), .inl ((cG 16), 8, .inl odm))]) (w1 := (wX h cA by_ (nI len) pl tk tp (nI n) may hd fi un (nI n2) may2 hd2 fi2 un2 on asd iov_195 iav_196 keptv_197 tr)) hP hD [0, 1, 2, 3, 4, 5, 6, 7, 8, 9, 10, 11, 12] [13, 14, 15, 16, 17, 18, 19, 20, 21, 22, 23, 24, 25, 26, 27, 28, 29] rfl rfl (by decide) (by decide) hk1 hFc hP1 hD1
                                          have hP := hP2.sub (ws' := (wLw h cA g cG by_ (nI len) pl tk tp (nI n) may hd fi un (nI n2) may2 hd2 fi2 un2 on asd iov_195 iav_196 keptv_197 tr (nI n) hdm fim unm on may asd tx (nI len) kp ko ka tr patm pfrm rhdm rifm rulm prrm prmm rdm bbm nwm otm evm odm)) [17, 18, 19, 20, 21, 22, 23, 24, 25, 26, 27, 28, 29, 0, 1, 2, 3, 4, 5, 6, 7, 8, 9, 10, 11, 12, 13, 14, 15, 16] rfl
                                          have hD := hD2.sub (ws' := (wLw h cA g cG by_ (nI len) pl tk tp (nI n) may hd fi un (nI n2) may2 hd2 fi2 un2 on asd iov_195 iav_196 keptv_197 tr (nI n) hdm fim unm on may asd tx (nI len) kp ko ka tr patm pfrm rhdm rifm rulm prrm prmm rdm bbm nwm otm evm odm)) [17, 18, 19, 20, 21, 22, 23, 24, 25, 26, 27, 28, 29, 0, 1, 2, 3, 4, 5, 6, 7, 8, 9, 10, 11, 12, 13, 14, 15, 16] (by decide) rfl
                                          clear hP1 hD1 hFc hk1
                                          generalize H1 = H at hP hS ⊢
                                          refine lv_aload_n hx hb dL_law_629 rfl (lv_at hl 2 rfl) ?_
                                          refine lv_aload_n hx hb dL_law_630 rfl (lv_at hl 0 rfl) ?_
                                          refine lv_iload_n hx hb dL_law_631 rfl (lv_at hl 3 rfl) ?_
                                          refine lv_iconst (v := 1) hx hb dL_law_632 (by decide) ?_
                                          refine lv_iadd hx hb dL_law_633 ?_
                                          refine lv_cv (nI_add (4 * j) 1) ?_
                                          refine wa_sld hx hb hX hbl hbA hS (4 * j + 1) rfl (by omega) (by omega) dL_law_634 ?_
                                          have hPc := hP.sub (ws' := (wM g cG (nI n) hdm fim unm on may asd tx (nI len) kp ko ka tr patm pfrm rhdm rifm rulm prrm prmm rdm bbm nwm otm evm odm)) [13, 14, 15, 16, 17, 18, 19, 20, 21, 22, 23, 24, 25, 26, 27, 28, 29] rfl
                                          have hDc := hD.sub (ws' := (wM g cG (nI n) hdm fim unm on may asd tx (nI len) kp ko ka tr patm pfrm rhdm rifm rulm prrm prmm rdm bbm nwm otm evm odm)) [13, 14, 15, 16, 17, 18, 19, 20, 21, 22, 23, 24, 25, 26, 27, 28, 29] (by decide) rfl
                                          have hKc := hK.sub (tys' := (tM g cG)) [9, 10, 11, 12, 13, 14, 15, 16, 17, 18, 19, 20, 21, 22, 23, 24] rfl
                                          have hFc := va_free (wc := (wM g cG (nI n) hdm fim unm on may asd tx (nI len) kp ko ka tr patm pfrm rhdm rifm rulm prrm prmm rdm bbm nwm otm evm odm)) hD hS hA [13, 14, 15, 16, 17, 18, 19, 20, 21, 22, 23, 24, 25, 26, 27, 28, 29] rfl
                                          refine rw_i (D := D) (wc := (wM g cG (nI n) hdm fim unm on may asd tx (nI len) kp ko ka tr patm pfrm rhdm rifm rulm prrm prmm rdm bbm nwm otm evm odm)) (va_runV (As := [.int (xs (4 * j + 1))]) (rest := [.int rv_198]) ⟨hx, hb, hml, hown, hts⟩ (c_X3_keep l D g cG n hdm fim unm on may asd tx (nI len) kp ko ka tr patm pfrm rhdm rifm rulm prrm prmm rdm bbm nwm otm evm odm (xs (4 * j + 1)) hR.hn _) (cwV 1 hts gL_law_X3_keep rfl rfl rfl (by decide +kernel) ⟨Nat.le_of_ble_eq_true rfl, Nat.le_of_ble_eq_true rfl⟩) ⟨cPre.blind, va_recv hKc hPc (ci := 3) (q0 := 0) rfl rfl, cPre.mk hPc hKc hDc hN⟩ rfl rfl hl.1 rfl (lv_room (Nat.le_of_ble_eq_true rfl)) dL_law_635 ⟨Nat.le_of_ble_eq_true rfl, Nat.le_of_ble_eq_true rfl⟩) hS hFc (fun rv_203 u H1 locs hw_204 hP1 hD1 hk1 hS => ?_)
                                          obtain ⟨kpmv_200, komv_201, kamv_202⟩ := u
                                          try dsimp only at hw_204
                                          obtain ⟨hP2, hD2⟩ := va_join (wr := [((h 0), .inr (2, [.ref (h 1), .ref (h 3), .ref (h 7), .int on, .int asd, .ref (h 11), .ref (h 12), .int keptv_197, .long tr])), ((h 1), .inr (1, [.ref (h 2), .int (nI len), .int pl, .int tk, .int tp])), ((h 2), .inl ((cA 2), 300, .inl by_)), ((h 3), .inr (0, [.int (nI n), .int may, .ref (h 4), .ref (h 5), .ref (h 6)])), ((h 4), .inl ((cA 4), 10, .inl hd)), ((h 5), .inl ((cA 5), 10, .inl fi)), ((h 6), .inl ((cA 6), 10, .inl un)), ((h 7), .inr (0, [.int (nI n2), .int may2, .ref (h 8), .ref (h 9), .ref (h 10)])), ((h 8), .inl ((cA 8), 10, .inl hd2)), ((h 9), .inl ((cA 9), 10, .inl fi2)), ((h 10), .inl ((cA 10), 10, .inl un2)), ((h 11), .inl ((cA 11), 2, .inl iov_195)), ((h 12), .inl ((cA 12), 2, .inl iav_196))]) (w1 := (wM g cG (nI n) hdm fim unm on may asd tx (nI len) kpmv_200 komv_201 kamv_202 tr patm pfrm rhdm rifm rulm prrm prmm rdm bbm nwm otm evm odm)) hP hD [13, 14, 15, 16, 17, 18, 19, 20, 21, 22, 23, 24, 25, 26, 27, 28, 29] [0, 1, 2, 3, 4, 5, 6, 7, 8, 9, 10, 11, 12] rfl rfl (by decide) (by decide) hk1 hFc hP1 hD1
                                          have hP := hP2.sub (ws' := (wLw h cA g cG by_ (nI len) pl tk tp (nI n) may hd fi un (nI n2) may2 hd2 fi2 un2 on asd iov_195 iav_196 keptv_197 tr (nI n) hdm fim unm on may asd tx (nI len) kpmv_200 komv_201 kamv_202 tr patm pfrm rhdm rifm rulm prrm prmm rdm bbm nwm otm evm odm)) [0, 1, 2, 3, 4, 5, 6, 7, 8, 9, 10, 11, 12, 13, 14, 15, 16, 17, 18, 19, 20, 21, 22, 23, 24, 25, 26, 27, 28, 29] rfl
                                          have hD := hD2.sub (ws' := (wLw h cA g cG by_ (nI len) pl tk tp (nI n) may hd fi un (nI n2) may2 hd2 fi2 un2 on asd iov_195 iav_196 keptv_197 tr (nI n) hdm fim unm on may asd tx (nI len) kpmv_200 komv_201 kamv_202 tr patm pfrm rhdm rifm rulm prrm prmm rdm bbm nwm otm evm odm)) [0, 1, 2, 3, 4, 5, 6, 7, 8, 9, 10, 11, 12, 13, 14, 15, 16, 17, 18, 19, 20, 21, 22, 23, 24, 25, 26, 27, 28, 29] (by decide) rfl
                                          clear hP1 hD1 hFc hk1
                                          generalize H1 = H at hP hS ⊢
                                          obtain ⟨eq_205, hR_206⟩ := q_keep hR hw_199 hw_204
                                          refine lv_icmp_eq (tgt := 703) hx hb dL_law_638 (by decide) (fun _ => ?_) (fun hh => absurd eq_205 hh)
                                          refine lv_iinc (v := nI (4 * (j + 1))) (lv' := [(3, .int (nI (4 * (j + 1)))), (0, .ref b), (1, .ref (h 0)), (2, .ref (g 0))]) hx hb dL_law_703 hl (k := 3) rfl (inc4 j) (by decide) rfl (fun ls hl => ?_)
                                          refine lv_goto (tgt := 18) hx hb dL_law_706 (by decide) ?_
                                          exact ih (j + 1) (by omega) h cA g cG n len n2 by_ pl tk tp may hd fi un may2 hd2 fi2 un2 on asd iov_195 iav_196 keptv_197 tr hdm fim unm tx kpmv_200 komv_201 kamv_202 patm pfrm rhdm rifm rulm prrm prmm rdm bbm nwm otm evm odm hR_206 _ _ hK hP hD hS _ (lv_sub hl [1, 2, 3, 0] rfl)
                                        · by_cases k_32_207 : ((xs (4 * j)) &&& 31) = 19
                                          · refine lv_tableIn (tgt := 643) hx hb dL_law_32 (by rw [k_32_207]; decide) (by rw [k_32_207]; decide) (by rw [k_32_207]; rfl) (by decide) ?_
                                            refine lv_aload_n hx hb dL_law_643 rfl (lv_at hl 1 rfl) ?_
                                            refine lv_aload_n hx hb dL_law_644 rfl (lv_at hl 0 rfl) ?_
                                            refine lv_iload_n hx hb dL_law_645 rfl (lv_at hl 3 rfl) ?_
                                            refine lv_iconst (v := 1) hx hb dL_law_646 (by decide) ?_
                                            refine lv_iadd hx hb dL_law_647 ?_
                                            refine lv_cv (nI_add (4 * j) 1) ?_
                                            refine wa_sld hx hb hX hbl hbA hS (4 * j + 1) rfl (by omega) (by omega) dL_law_648 ?_
                                            have hPc := hP.sub (ws' := (wX h cA by_ (nI len) pl tk tp (nI n) may hd fi un (nI n2) may2 hd2 fi2 un2 on asd io ia kept tr)) [0, 1, 2, 3, 4, 5, 6, 7, 8, 9, 10, 11, 12] rfl
                                            have hDc := hD.sub (ws' := (wX h cA by_ (nI len) pl tk tp (nI n) may hd fi un (nI n2) may2 hd2 fi2 un2 on asd io ia kept tr)) [0, 1, 2, 3, 4, 5, 6, 7, 8, 9, 10, 11, 12] (by decide) rfl
                                            have hKc := hK.sub (tys' := (tX h cA)) [0, 1, 2, 3, 4, 5, 6, 7, 8] rfl
                                            have hFc := va_free (wc := (wX h cA by_ (nI len) pl tk tp (nI n) may hd fi un (nI n2) may2 hd2 fi2 un2 on asd io ia kept tr)) hD hS hA [0, 1, 2, 3, 4, 5, 6, 7, 8, 9, 10, 11, 12] rfl
                                            refine rw_i (D := D) (wc := (wX h cA by_ (nI len) pl tk tp (nI n) may hd fi un (nI n2) may2 hd2 fi2 un2 on asd io ia kept tr)) (va_runV (As := [.int (xs (4 * j + 1))]) (rest := []) ⟨hx, hb, hml, hown, hts⟩ (c_X2_back l D h cA n by_ (nI len) pl tk tp may hd fi un (nI n2) may2 hd2 fi2 un2 on asd io ia kept tr (xs (4 * j + 1)) hR.hn _) (cwV 1 hts gL_law_X2_back rfl rfl rfl (by decide +kernel) ⟨Nat.le_of_ble_eq_true rfl, Nat.le_of_ble_eq_true rfl⟩) ⟨cPre.blind, va_recv hKc hPc (ci := 2) (q0 := 0) rfl rfl, cPre.mk hPc hKc hDc hN⟩ rfl rfl hl.1 rfl (lv_room (Nat.le_of_ble_eq_true rfl)) dL_law_649 ⟨Nat.le_of_ble_eq_true rfl, Nat.le_of_ble_eq_true rfl⟩) hS hFc (fun rv_210 u H1 locs hw_211 hP1 hD1 hk1 hS => ?_)
                                            obtain ⟨onv_208, asdv_209⟩ := u
                                            try dsimp only at hw_211
                                            obtain ⟨hP2, hD2⟩ := va_join (wr := [((g 0), .inr (3, [.int (nI n), .ref (g 1), .ref (g 2), .ref (g 3), .int on, .int may, .int asd, .ref (g 4), .int (nI len), .ref (g 5), .ref (g 6), .ref (g 7), .long tr, .int patm, .int pfrm, .ref (g 8), .ref (g 9), .ref (g 10), .int prrm, .int prmm, .ref (g 11), .ref (g 12), .ref (g 13), .ref (g 14), .ref (g 15), .ref (g 16)])), ((g 1), .inl ((cG 1), 10, .inl hdm)), ((g 2), .inl ((cG 2), 10, .inl fim)), ((g 3), .inl ((cG 3), 10, .inl unm)), ((g 4), .inl ((cG 4), 300, .inl tx)), ((g 5), .inl ((cG 5), 2, .inl kp)), ((g 6), .inl ((cG 6), 2, .inl ko)), ((g 7), .inl ((cG 7), 2, .inl ka)), ((g 8), .inl ((cG 8), 10, .inl rhdm)), ((g 9), .inl ((cG 9), 10, .inl rifm)), ((g 10), .inl ((cG 10), 10, .inl rulm)), ((g 11), .inl ((cG 11), 8, .inl rdm)), ((g 12), .inl ((cG 12), 8, .inl bbm)), ((g 13), .inl ((cG 13), 8, .inl nwm)), ((g 14), .inl ((cG 14), 8, .inl otm)), ((g 15), .inl ((cG 15), 8, .inl evm)), ((g 16), .inl ((cG 16), 8, .inl odm))]) (w1 := (wX h cA by_ (nI len) pl tk tp (nI n) may hd fi un (nI n2) may2 hd2 fi2 un2 onv_208 asdv_209 io ia kept tr)) hP hD [0, 1, 2, 3, 4, 5, 6, 7, 8, 9, 10, 11, 12] [13, 14, 15, 16, 17, 18, 19, 20, 21, 22, 23, 24, 25, 26, 27, 28, 29] rfl rfl (by decide) (by decide) hk1 hFc hP1 hD1
                                            have hP := hP2.sub (ws' := (wLw h cA g cG by_ (nI len) pl tk tp (nI n) may hd fi un (nI n2) may2 hd2 fi2 un2 onv_208 asdv_209 io ia kept tr (nI n) hdm fim unm on may asd tx (nI len) kp ko ka tr patm pfrm rhdm rifm rulm prrm prmm rdm bbm nwm otm evm odm)) [17, 18, 19, 20, 21, 22, 23, 24, 25, 26, 27, 28, 29, 0, 1, 2, 3, 4, 5, 6, 7, 8, 9, 10, 11, 12, 13, 14, 15, 16] rfl
                                            have hD := hD2.sub (ws' := (wLw h cA g cG by_ (nI len) pl tk tp (nI n) may hd fi un (nI n2) may2 hd2 fi2 un2 onv_208 asdv_209 io ia kept tr (nI n) hdm fim unm on may asd tx (nI len) kp ko ka tr patm pfrm rhdm rifm rulm prrm prmm rdm bbm nwm otm evm odm)) [17, 18, 19, 20, 21, 22, 23, 24, 25, 26, 27, 28, 29, 0, 1, 2, 3, 4, 5, 6, 7, 8, 9, 10, 11, 12, 13, 14, 15, 16] (by decide) rfl
                                            clear hP1 hD1 hFc hk1
                                            generalize H1 = H at hP hS ⊢
                                            refine lv_aload_n hx hb dL_law_652 rfl (lv_at hl 2 rfl) ?_
                                            refine lv_aload_n hx hb dL_law_653 rfl (lv_at hl 0 rfl) ?_
                                            refine lv_iload_n hx hb dL_law_654 rfl (lv_at hl 3 rfl) ?_
                                            refine lv_iconst (v := 1) hx hb dL_law_655 (by decide) ?_
                                            refine lv_iadd hx hb dL_law_656 ?_
                                            refine lv_cv (nI_add (4 * j) 1) ?_
                                            refine wa_sld hx hb hX hbl hbA hS (4 * j + 1) rfl (by omega) (by omega) dL_law_657 ?_
                                            have hPc := hP.sub (ws' := (wM g cG (nI n) hdm fim unm on may asd tx (nI len) kp ko ka tr patm pfrm rhdm rifm rulm prrm prmm rdm bbm nwm otm evm odm)) [13, 14, 15, 16, 17, 18, 19, 20, 21, 22, 23, 24, 25, 26, 27, 28, 29] rfl
                                            have hDc := hD.sub (ws' := (wM g cG (nI n) hdm fim unm on may asd tx (nI len) kp ko ka tr patm pfrm rhdm rifm rulm prrm prmm rdm bbm nwm otm evm odm)) [13, 14, 15, 16, 17, 18, 19, 20, 21, 22, 23, 24, 25, 26, 27, 28, 29] (by decide) rfl
                                            have hKc := hK.sub (tys' := (tM g cG)) [9, 10, 11, 12, 13, 14, 15, 16, 17, 18, 19, 20, 21, 22, 23, 24] rfl
                                            have hFc := va_free (wc := (wM g cG (nI n) hdm fim unm on may asd tx (nI len) kp ko ka tr patm pfrm rhdm rifm rulm prrm prmm rdm bbm nwm otm evm odm)) hD hS hA [13, 14, 15, 16, 17, 18, 19, 20, 21, 22, 23, 24, 25, 26, 27, 28, 29] rfl
                                            refine rw_i (D := D) (wc := (wM g cG (nI n) hdm fim unm on may asd tx (nI len) kp ko ka tr patm pfrm rhdm rifm rulm prrm prmm rdm bbm nwm otm evm odm)) (va_runV (As := [.int (xs (4 * j + 1))]) (rest := [.int rv_210]) ⟨hx, hb, hml, hown, hts⟩ (c_X3_back l D g cG n hdm fim unm on may asd tx (nI len) kp ko ka tr patm pfrm rhdm rifm rulm prrm prmm rdm bbm nwm otm evm odm (xs (4 * j + 1)) hR.hn _) (cwV 1 hts gL_law_X3_back rfl rfl rfl (by decide +kernel) ⟨Nat.le_of_ble_eq_true rfl, Nat.le_of_ble_eq_true rfl⟩) ⟨cPre.blind, va_recv hKc hPc (ci := 3) (q0 := 0) rfl rfl, cPre.mk hPc hKc hDc hN⟩ rfl rfl hl.1 rfl (lv_room (Nat.le_of_ble_eq_true rfl)) dL_law_658 ⟨Nat.le_of_ble_eq_true rfl, Nat.le_of_ble_eq_true rfl⟩) hS hFc (fun rv_214 u H1 locs hw_215 hP1 hD1 hk1 hS => ?_)
                                            obtain ⟨onmv_212, asdmv_213⟩ := u
                                            try dsimp only at hw_215
                                            obtain ⟨hP2, hD2⟩ := va_join (wr := [((h 0), .inr (2, [.ref (h 1), .ref (h 3), .ref (h 7), .int onv_208, .int asdv_209, .ref (h 11), .ref (h 12), .int kept, .long tr])), ((h 1), .inr (1, [.ref (h 2), .int (nI len), .int pl, .int tk, .int tp])), ((h 2), .inl ((cA 2), 300, .inl by_)), ((h 3), .inr (0, [.int (nI n), .int may, .ref (h 4), .ref (h 5), .ref (h 6)])), ((h 4), .inl ((cA 4), 10, .inl hd)), ((h 5), .inl ((cA 5), 10, .inl fi)), ((h 6), .inl ((cA 6), 10, .inl un)), ((h 7), .inr (0, [.int (nI n2), .int may2, .ref (h 8), .ref (h 9), .ref (h 10)])), ((h 8), .inl ((cA 8), 10, .inl hd2)), ((h 9), .inl ((cA 9), 10, .inl fi2)), ((h 10), .inl ((cA 10), 10, .inl un2)), ((h 11), .inl ((cA 11), 2, .inl io)), ((h 12), .inl ((cA 12), 2, .inl ia))]) (w1 := (wM g cG (nI n) hdm fim unm onmv_212 may asdmv_213 tx (nI len) kp ko ka tr patm pfrm rhdm rifm rulm prrm prmm rdm bbm nwm otm evm odm)) hP hD [13, 14, 15, 16, 17, 18, 19, 20, 21, 22, 23, 24, 25, 26, 27, 28, 29] [0, 1, 2, 3, 4, 5, 6, 7, 8, 9, 10, 11, 12] rfl rfl (by decide) (by decide) hk1 hFc hP1 hD1
                                            have hP := hP2.sub (ws' := (wLw h cA g cG by_ (nI len) pl tk tp (nI n) may hd fi un (nI n2) may2 hd2 fi2 un2 onv_208 asdv_209 io ia kept tr (nI n) hdm fim unm onmv_212 may asdmv_213 tx (nI len) kp ko ka tr patm pfrm rhdm rifm rulm prrm prmm rdm bbm nwm otm evm odm)) [0, 1, 2, 3, 4, 5, 6, 7, 8, 9, 10, 11, 12, 13, 14, 15, 16, 17, 18, 19, 20, 21, 22, 23, 24, 25, 26, 27, 28, 29] rfl
                                            have hD := hD2.sub (ws' := (wLw h cA g cG by_ (nI len) pl tk tp (nI n) may hd fi un (nI n2) may2 hd2 fi2 un2 onv_208 asdv_209 io ia kept tr (nI n) hdm fim unm onmv_212 may asdmv_213 tx (nI len) kp ko ka tr patm pfrm rhdm rifm rulm prrm prmm rdm bbm nwm otm evm odm)) [0, 1, 2, 3, 4, 5, 6, 7, 8, 9, 10, 11, 12, 13, 14, 15, 16, 17, 18, 19, 20, 21, 22, 23, 24, 25, 26, 27, 28, 29] (by decide) rfl
                                            clear hP1 hD1 hFc hk1
                                            generalize H1 = H at hP hS ⊢
                                            obtain ⟨eq_216, eq_217, eq_218, hR_219⟩ := q_back hR hw_211 hw_215
                                            subst eq_217
                                            subst eq_218
                                            refine lv_icmp_eq (tgt := 703) hx hb dL_law_661 (by decide) (fun _ => ?_) (fun hh => absurd eq_216 hh)
                                            refine lv_iinc (v := nI (4 * (j + 1))) (lv' := [(3, .int (nI (4 * (j + 1)))), (0, .ref b), (1, .ref (h 0)), (2, .ref (g 0))]) hx hb dL_law_703 hl (k := 3) rfl (inc4 j) (by decide) rfl (fun ls hl => ?_)
                                            refine lv_goto (tgt := 18) hx hb dL_law_706 (by decide) ?_
                                            exact ih (j + 1) (by omega) h cA g cG n len n2 by_ pl tk tp may hd fi un may2 hd2 fi2 un2 onv_208 asdv_209 io ia kept tr hdm fim unm tx kp ko ka patm pfrm rhdm rifm rulm prrm prmm rdm bbm nwm otm evm odm hR_219 _ _ hK hP hD hS _ (lv_sub hl [1, 2, 3, 0] rfl)
                                          · by_cases k_32_220 : ((xs (4 * j)) &&& 31) = 20
                                            · refine lv_tableIn (tgt := 666) hx hb dL_law_32 (by rw [k_32_220]; decide) (by rw [k_32_220]; decide) (by rw [k_32_220]; rfl) (by decide) ?_
                                              refine lv_aload_n hx hb dL_law_666 rfl (lv_at hl 1 rfl) ?_
                                              refine lv_aload_n hx hb dL_law_667 rfl (lv_at hl 0 rfl) ?_
                                              refine lv_iload_n hx hb dL_law_668 rfl (lv_at hl 3 rfl) ?_
                                              refine lv_iconst (v := 1) hx hb dL_law_669 (by decide) ?_
                                              refine lv_iadd hx hb dL_law_670 ?_
                                              refine lv_cv (nI_add (4 * j) 1) ?_
                                              refine wa_sld hx hb hX hbl hbA hS (4 * j + 1) rfl (by omega) (by omega) dL_law_671 ?_
                                              have hPc := hP.sub (ws' := (wX h cA by_ (nI len) pl tk tp (nI n) may hd fi un (nI n2) may2 hd2 fi2 un2 on asd io ia kept tr)) [0, 1, 2, 3, 4, 5, 6, 7, 8, 9, 10, 11, 12] rfl
                                              have hDc := hD.sub (ws' := (wX h cA by_ (nI len) pl tk tp (nI n) may hd fi un (nI n2) may2 hd2 fi2 un2 on asd io ia kept tr)) [0, 1, 2, 3, 4, 5, 6, 7, 8, 9, 10, 11, 12] (by decide) rfl
                                              have hKc := hK.sub (tys' := (tX h cA)) [0, 1, 2, 3, 4, 5, 6, 7, 8] rfl
                                              refine ro_i (D := D) (va_runV (As := [.int (xs (4 * j + 1))]) (rest := []) ⟨hx, hb, hml, hown, hts⟩ (c_X2_count l D h cA n by_ (nI len) pl tk tp may hd fi un (nI n2) may2 hd2 fi2 un2 on asd io ia kept tr (xs (4 * j + 1)) hR.hn _) (cwV 1 hts gL_law_X2_count rfl rfl rfl (by decide +kernel) ⟨Nat.le_of_ble_eq_true rfl, Nat.le_of_ble_eq_true rfl⟩) ⟨cPre.blind, va_recv hKc hPc (ci := 2) (q0 := 0) rfl rfl, cPre.mk hPc hKc hDc hN⟩ rfl rfl hl.1 rfl (lv_room (Nat.le_of_ble_eq_true rfl)) dL_law_672 ⟨Nat.le_of_ble_eq_true rfl, Nat.le_of_ble_eq_true rfl⟩) hS hA (fun H locs hkp0 hS => ?_)
                                              replace hP := hkp0 _ hP
                                              refine lv_aload_n hx hb dL_law_675 rfl (lv_at hl 2 rfl) ?_
                                              refine lv_aload_n hx hb dL_law_676 rfl (lv_at hl 0 rfl) ?_
                                              refine lv_iload_n hx hb dL_law_677 rfl (lv_at hl 3 rfl) ?_
                                              refine lv_iconst (v := 1) hx hb dL_law_678 (by decide) ?_
                                              refine lv_iadd hx hb dL_law_679 ?_
                                              refine lv_cv (nI_add (4 * j) 1) ?_
                                              refine wa_sld hx hb hX hbl hbA hS (4 * j + 1) rfl (by omega) (by omega) dL_law_680 ?_
                                              have hPc := hP.sub (ws' := (wM g cG (nI n) hdm fim unm on may asd tx (nI len) kp ko ka tr patm pfrm rhdm rifm rulm prrm prmm rdm bbm nwm otm evm odm)) [13, 14, 15, 16, 17, 18, 19, 20, 21, 22, 23, 24, 25, 26, 27, 28, 29] rfl
                                              have hDc := hD.sub (ws' := (wM g cG (nI n) hdm fim unm on may asd tx (nI len) kp ko ka tr patm pfrm rhdm rifm rulm prrm prmm rdm bbm nwm otm evm odm)) [13, 14, 15, 16, 17, 18, 19, 20, 21, 22, 23, 24, 25, 26, 27, 28, 29] (by decide) rfl
                                              have hKc := hK.sub (tys' := (tM g cG)) [9, 10, 11, 12, 13, 14, 15, 16, 17, 18, 19, 20, 21, 22, 23, 24] rfl
                                              refine ro_i (D := D) (va_runV (As := [.int (xs (4 * j + 1))]) (rest := [.int (s_X2_count n may on asd (nI len) (xs (4 * j + 1)))]) ⟨hx, hb, hml, hown, hts⟩ (c_X3_count l D g cG n hdm fim unm on may asd tx (nI len) kp ko ka tr patm pfrm rhdm rifm rulm prrm prmm rdm bbm nwm otm evm odm (xs (4 * j + 1)) hR.hn _) (cwV 1 hts gL_law_X3_count rfl rfl rfl (by decide +kernel) ⟨Nat.le_of_ble_eq_true rfl, Nat.le_of_ble_eq_true rfl⟩) ⟨cPre.blind, va_recv hKc hPc (ci := 3) (q0 := 0) rfl rfl, cPre.mk hPc hKc hDc hN⟩ rfl rfl hl.1 rfl (lv_room (Nat.le_of_ble_eq_true rfl)) dL_law_681 ⟨Nat.le_of_ble_eq_true rfl, Nat.le_of_ble_eq_true rfl⟩) hS hA (fun H locs hkp0 hS => ?_)
                                              replace hP := hkp0 _ hP
                                              refine lv_icmp_eq (tgt := 703) hx hb dL_law_684 (by decide) (fun _ => ?_) (fun hh => absurd (q_count hR (xs (4 * j + 1))) hh)
                                              refine lv_iinc (v := nI (4 * (j + 1))) (lv' := [(3, .int (nI (4 * (j + 1)))), (0, .ref b), (1, .ref (h 0)), (2, .ref (g 0))]) hx hb dL_law_703 hl (k := 3) rfl (inc4 j) (by decide) rfl (fun ls hl => ?_)
                                              refine lv_goto (tgt := 18) hx hb dL_law_706 (by decide) ?_
                                              exact ih (j + 1) (by omega) h cA g cG n len n2 by_ pl tk tp may hd fi un may2 hd2 fi2 un2 on asd io ia kept tr hdm fim unm tx kp ko ka patm pfrm rhdm rifm rulm prrm prmm rdm bbm nwm otm evm odm hR _ _ hK hP hD hS _ (lv_sub hl [1, 2, 3, 0] rfl)
                                            · by_cases k_32_221 : ((xs (4 * j)) &&& 31) = 21
                                              · refine lv_tableIn (tgt := 689) hx hb dL_law_32 (by rw [k_32_221]; decide) (by rw [k_32_221]; decide) (by rw [k_32_221]; rfl) (by decide) ?_
                                                refine lv_aload_n hx hb dL_law_689 rfl (lv_at hl 1 rfl) ?_
                                                have hPc := hP.sub (ws' := (wX h cA by_ (nI len) pl tk tp (nI n) may hd fi un (nI n2) may2 hd2 fi2 un2 on asd io ia kept tr)) [0, 1, 2, 3, 4, 5, 6, 7, 8, 9, 10, 11, 12] rfl
                                                have hDc := hD.sub (ws' := (wX h cA by_ (nI len) pl tk tp (nI n) may hd fi un (nI n2) may2 hd2 fi2 un2 on asd io ia kept tr)) [0, 1, 2, 3, 4, 5, 6, 7, 8, 9, 10, 11, 12] (by decide) rfl
                                                have hKc := hK.sub (tys' := (tX h cA)) [0, 1, 2, 3, 4, 5, 6, 7, 8] rfl
                                                refine ro_l (D := D) (va_runV (As := []) (rest := []) ⟨hx, hb, hml, hown, hts⟩ (c_X2_trace l D h cA n by_ (nI len) pl tk tp may hd fi un (nI n2) may2 hd2 fi2 un2 on asd io ia kept tr hR.hn _) (cwV 0 hts gL_law_X2_trace rfl rfl rfl (by decide +kernel) ⟨Nat.le_of_ble_eq_true rfl, Nat.le_of_ble_eq_true rfl⟩) ⟨cPre.blind, va_recv hKc hPc (ci := 2) (q0 := 0) rfl rfl, cPre.mk hPc hKc hDc hN⟩ rfl rfl hl.1 rfl (lv_room (Nat.le_of_ble_eq_true rfl)) dL_law_690 ⟨Nat.le_of_ble_eq_true rfl, Nat.le_of_ble_eq_true rfl⟩) hS hA (fun H locs hkp0 hS => ?_)
                                                replace hP := hkp0 _ hP
                                                refine lv_aload_n hx hb dL_law_693 rfl (lv_at hl 2 rfl) ?_
                                                have hPc := hP.sub (ws' := (wM g cG (nI n) hdm fim unm on may asd tx (nI len) kp ko ka tr patm pfrm rhdm rifm rulm prrm prmm rdm bbm nwm otm evm odm)) [13, 14, 15, 16, 17, 18, 19, 20, 21, 22, 23, 24, 25, 26, 27, 28, 29] rfl
                                                have hDc := hD.sub (ws' := (wM g cG (nI n) hdm fim unm on may asd tx (nI len) kp ko ka tr patm pfrm rhdm rifm rulm prrm prmm rdm bbm nwm otm evm odm)) [13, 14, 15, 16, 17, 18, 19, 20, 21, 22, 23, 24, 25, 26, 27, 28, 29] (by decide) rfl
                                                have hKc := hK.sub (tys' := (tM g cG)) [9, 10, 11, 12, 13, 14, 15, 16, 17, 18, 19, 20, 21, 22, 23, 24] rfl
                                                refine ro_l (D := D) (va_runV (As := []) (rest := [.long (s_X2_trace tr)]) ⟨hx, hb, hml, hown, hts⟩ (c_X3_trace l D g cG n hdm fim unm on may asd tx (nI len) kp ko ka tr patm pfrm rhdm rifm rulm prrm prmm rdm bbm nwm otm evm odm hR.hn _) (cwV 0 hts gL_law_X3_trace rfl rfl rfl (by decide +kernel) ⟨Nat.le_of_ble_eq_true rfl, Nat.le_of_ble_eq_true rfl⟩) ⟨cPre.blind, va_recv hKc hPc (ci := 3) (q0 := 0) rfl rfl, cPre.mk hPc hKc hDc hN⟩ rfl rfl hl.1 rfl (lv_room (Nat.le_of_ble_eq_true rfl)) dL_law_694 ⟨Nat.le_of_ble_eq_true rfl, Nat.le_of_ble_eq_true rfl⟩) hS hA (fun H locs hkp0 hS => ?_)
                                                replace hP := hkp0 _ hP
                                                refine W.lcmp hx hb dL_law_697 ?_
                                                refine lv_if_eq (tgt := 703) hx hb dL_law_698 (by decide) (fun _ => ?_) (fun hh => absurd (cmp_self tr) hh)
                                                refine lv_iinc (v := nI (4 * (j + 1))) (lv' := [(3, .int (nI (4 * (j + 1)))), (0, .ref b), (1, .ref (h 0)), (2, .ref (g 0))]) hx hb dL_law_703 hl (k := 3) rfl (inc4 j) (by decide) rfl (fun ls hl => ?_)
                                                refine lv_goto (tgt := 18) hx hb dL_law_706 (by decide) ?_
                                                exact ih (j + 1) (by omega) h cA g cG n len n2 by_ pl tk tp may hd fi un may2 hd2 fi2 un2 on asd io ia kept tr hdm fim unm tx kp ko ka patm pfrm rhdm rifm rulm prrm prmm rdm bbm nwm otm evm odm hR _ _ hK hP hD hS _ (lv_sub hl [1, 2, 3, 0] rfl)
                                              · have ne_222 := lv_neT (a := 0) k_32_1 (by decide)
                                                have ne_223 := lv_neT (a := 1) k_32_14 (by decide)
                                                have ne_224 := lv_neT (a := 2) k_32_25 (by decide)
                                                have ne_225 := lv_neT (a := 3) k_32_101 (by decide)
                                                have ne_226 := lv_neT (a := 4) k_32_102 (by decide)
                                                have ne_227 := lv_neT (a := 5) k_32_112 (by decide)
                                                have ne_228 := lv_neT (a := 6) k_32_122 (by decide)
                                                have ne_229 := lv_neT (a := 7) k_32_128 (by decide)
                                                have ne_230 := lv_neT (a := 8) k_32_134 (by decide)
                                                have ne_231 := lv_neT (a := 9) k_32_139 (by decide)
                                                have ne_232 := lv_neT (a := 10) k_32_144 (by decide)
                                                have ne_233 := lv_neT (a := 11) k_32_149 (by decide)
                                                have ne_234 := lv_neT (a := 12) k_32_155 (by decide)
                                                have ne_235 := lv_neT (a := 13) k_32_160 (by decide)
                                                have ne_236 := lv_neT (a := 14) k_32_165 (by decide)
                                                have ne_237 := lv_neT (a := 15) k_32_170 (by decide)
                                                have ne_238 := lv_neT (a := 16) k_32_177 (by decide)
                                                have ne_239 := lv_neT (a := 17) k_32_184 (by decide)
                                                have ne_240 := lv_neT (a := 18) k_32_194 (by decide)
                                                have ne_241 := lv_neT (a := 19) k_32_207 (by decide)
                                                have ne_242 := lv_neT (a := 20) k_32_220 (by decide)
                                                have ne_243 := lv_neT (a := 21) k_32_221 (by decide)
                                                refine lv_tableOut (tgt := 703) hx hb dL_law_32 (by omega) (by decide) ?_
                                                refine lv_iinc (v := nI (4 * (j + 1))) (lv' := [(3, .int (nI (4 * (j + 1)))), (0, .ref b), (1, .ref (h 0)), (2, .ref (g 0))]) hx hb dL_law_703 hl (k := 3) rfl (inc4 j) (by decide) rfl (fun ls hl => ?_)
                                                refine lv_goto (tgt := 18) hx hb dL_law_706 (by decide) ?_
                                                exact ih (j + 1) (by omega) h cA g cG n len n2 by_ pl tk tp may hd fi un may2 hd2 fi2 un2 on asd io ia kept tr hdm fim unm tx kp ko ka patm pfrm rhdm rifm rulm prrm prmm rdm bbm nwm otm evm odm hR _ _ hK hP hD hS _ (lv_sub hl [1, 2, 3, 0] rfl)
