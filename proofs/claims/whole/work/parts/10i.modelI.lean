
def s_X3_goesTo (rr : Nat) (place : Int32) (token : Int32) : Int32 := (if 8 ≤ token then (if place = 0 then (if token = 10 then (if 10 ≤ (nI rr) then (if token = 11 then 7 else (-1)) else 2) else (if token = 11 then 7 else (-1))) else (if place = 1 then (if token = 8 then 3 else (if token = 9 then 5 else (if token = 12 then 0 else (-1)))) else (if place = 2 then (if token = 8 then 3 else (if token = 9 then 5 else (-1))) else (if place = 3 then (-1) else (if place = 4 then (if token = 9 then 5 else (if token = 12 then 0 else (-1))) else (if place = 5 then (if place = 6 then (if token = 12 then 0 else (-1)) else (-1)) else (if place = 6 then (if token = 12 then 0 else (-1)) else (if place = 8 then (if token = 12 then 0 else (-1)) else (-1))))))))) else (if place = 0 then (if 10 ≤ (nI rr) then (if token = 10 then (if token = 11 then 7 else (-1)) else (if token = 11 then 7 else (-1))) else 1) else (if place = 1 then (if token = 8 then 3 else (if token = 9 then 5 else (if token = 12 then 0 else (-1)))) else (if place = 2 then (if token = 8 then 3 else (if token = 9 then 5 else (-1))) else (if place = 3 then 4 else (if place = 4 then 4 else (if place = 5 then 6 else (if place = 6 then 6 else 8))))))))
set_option maxHeartbeats 4000000 in
set_option maxRecDepth 100000 in
theorem c_X3_goesTo (l : Launch) (D : va_G) (h : Nat → Nat) (cA : Nat → ClassId) (rr : Nat) (rl : Int32) (hd : Nat → Int32) (fi : Nat → Int32) (un : Nat → Int32) (on : Int32) (may : Int32) (asd : Int32) (tx : Nat → Int32) (td : Int32) (kp : Nat → Int32) (ko : Nat → Int32) (ka : Nat → Int32) (tr : Int64) (pat : Int32) (pfr : Int32) (rhd : Nat → Int32) (rif : Nat → Int32) (rul : Nat → Int32) (prm : Int32) (rd : Nat → Int32) (bb : Nat → Int32) (nw : Nat → Int32) (ot : Nat → Int32) (ev : Nat → Int32) (od : Nat → Int32) (place : Int32) (token : Int32) (sz : Nat) : Met l yX3_goesTo wsX3_goesTo ({ frames := 0, cells := 0, slots := 0, locals := 0 }) (va_Pc [.ref (h 0), .int place, .int token] (cPre D (tM h cA) (wM h cA rl hd fi un on may asd tx td kp ko ka tr pat pfr rhd rif rul (nI rr) prm rd bb nw ot ev od) sz)) (va_Qi (fun r (_ : Unit) => r = s_X3_goesTo rr place token) (fun _ _ => True) (fun q => sz ≤ q)) 0 0 (fun q => sz ≤ q) := by
  refine Met.ofW (cc := cX3_goesTo) (maxL := 4) (ret := (some .int)) (by decide) rfl ?_
  intro p e s m args below meth c s₁ B hml hv
  obtain ⟨rfl, hsz, hP, hK, hD, hN⟩ := hv
  have hx := B.exec
  have hb := B.bytes
  have hr := B.returns
  have hts := atoms_spec (ws := wsX3_goesTo) B.pre
  have hown : s.vm.findClass RX3 = some m.cls := findClass_of_methodNamed B.named
  have hlocks := B.notSynchronized
  have hinX3 : ∀ w ∈ wsX30, w ∈ wsX3_goesTo := fun w h => List.mem_cons_of_mem _ (List.mem_append_right _ h)
  subst hsz
  obtain ⟨A, hAe⟩ : ∃ A : Nat → Prop, A = (fun q : Nat => s.heap.size ≤ q) := ⟨_, rfl⟩
  have hA : ∀ q : Nat, s.heap.size ≤ q → A q := fun q h => by rw [hAe]; exact h
  have hS : va_S A s.heap s.heap [] := va_S.rf
  subst hAe
  have hl := lv_entry ([.ref (h 0), .int place, .int token]) (n := 4) (Nat.le_of_ble_eq_true rfl)
  rw [lg_entry_eq]
  generalize (lg_sl ([.ref (h 0), .int place, .int token]) ++ List.replicate (4 - (lg_sl ([.ref (h 0), .int place, .int token])).length) Slot.unset).toArray = ls at hl ⊢
  replace hl : lv_has ls 4 [(0, .ref (h 0)), (1, .int place), (2, .int token)] := hl
  have hKe := hK.sub (tys' := []) [] rfl
  refine lv_iload_n hx hb dX3_goesTo_0 rfl (lv_at hl 2 rfl) ?_
  refine lv_bipush (v := 8) hx hb dX3_goesTo_1 (by decide) ?_
  refine lv_icmp_ge (tgt := 10) hx hb dX3_goesTo_3 (by decide) (fun c_3_1 => ?_) (fun c_3_1 => ?_)
  · refine lv_iconst (v := 0) hx hb dX3_goesTo_10 (by decide) ?_
    refine lv_istore_n (lv' := [(3, .int 0), (0, .ref (h 0)), (1, .int place), (2, .int token)]) hx hb dX3_goesTo_11 rfl hl (by decide) rfl (fun ls hl => ?_)
    refine lv_iload_n hx hb dX3_goesTo_12 rfl (lv_at hl 2 rfl) ?_
    by_cases k_13_2 : place = 0
    · refine lv_tableIn (tgt := 56) hx hb dX3_goesTo_13 (by rw [k_13_2]; decide) (by rw [k_13_2]; decide) (by rw [k_13_2]; rfl) (by decide) ?_
      refine lv_iload_n hx hb dX3_goesTo_56 rfl (lv_at hl 0 rfl) ?_
      refine lv_if_eq (tgt := 73) hx hb dX3_goesTo_57 (by decide) (fun _ => ?_) (fun hh_4 => absurd (by decide) hh_4)
      refine lv_iload_n hx hb dX3_goesTo_73 rfl (lv_at hl 3 rfl) ?_
      refine lv_bipush (v := 10) hx hb dX3_goesTo_74 (by decide) ?_
      refine lv_icmp_ne (tgt := 92) hx hb dX3_goesTo_76 (by decide) (fun c_76_5 => ?_) (fun c_76_5 => ?_)
      · refine lv_iload_n hx hb dX3_goesTo_92 rfl (lv_at hl 3 rfl) ?_
        refine lv_bipush (v := 11) hx hb dX3_goesTo_93 (by decide) ?_
        refine lv_icmp_ne (tgt := 103) hx hb dX3_goesTo_95 (by decide) (fun c_95_6 => ?_) (fun c_95_6 => ?_)
        · refine lv_iconst (v := (-1)) hx hb dX3_goesTo_103 (by decide) ?_
          exact ro_iret hx hb hr hS hlocks (show s_X3_goesTo rr place token = (-1) from by (unfold s_X3_goesTo; (try dsimp only); (try rw [if_pos c_3_1]); (try rw [if_pos k_13_2]); (try rw [if_neg c_76_5]); (try rw [if_neg c_95_6]); first | done | with_reducible rfl)).symm dX3_goesTo_104
        · refine lv_bipush (v := 7) hx hb dX3_goesTo_98 (by decide) ?_
          refine lv_goto (tgt := 104) hx hb dX3_goesTo_100 (by decide) ?_
          exact ro_iret hx hb hr hS hlocks (show s_X3_goesTo rr place token = 7 from by (unfold s_X3_goesTo; (try dsimp only); (try rw [if_pos c_3_1]); (try rw [if_pos k_13_2]); (try rw [if_neg c_76_5]); (try rw [if_pos c_95_6]); first | done | with_reducible rfl)).symm dX3_goesTo_104
      · refine lv_aload_n hx hb dX3_goesTo_79 rfl (lv_at hl 1 rfl) ?_
        refine va_get (D := D) (ci := 3) (v := .int (nI rr)) (C := RX3) (T := TX3) (N := 26) hx hb hts hinX3 hown hK hP 0 rfl rfl 18 (by decide) (hts (.fieldLink RX3 96 "HoldUnlessModel" "readRules" "I") (by decide +kernel)) (fun _ h9 => h9) rfl dX3_goesTo_80 ?_
        refine lv_bipush (v := 10) hx hb dX3_goesTo_83 (by decide) ?_
        refine lv_icmp_ge (tgt := 92) hx hb dX3_goesTo_85 (by decide) (fun c_85_7 => ?_) (fun c_85_7 => ?_)
        · refine lv_iload_n hx hb dX3_goesTo_92 rfl (lv_at hl 3 rfl) ?_
          refine lv_bipush (v := 11) hx hb dX3_goesTo_93 (by decide) ?_
          refine lv_icmp_ne (tgt := 103) hx hb dX3_goesTo_95 (by decide) (fun c_95_8 => ?_) (fun c_95_8 => ?_)
          · refine lv_iconst (v := (-1)) hx hb dX3_goesTo_103 (by decide) ?_
            exact ro_iret hx hb hr hS hlocks (show s_X3_goesTo rr place token = (-1) from by (unfold s_X3_goesTo; (try dsimp only); (try rw [if_pos c_3_1]); (try rw [if_pos k_13_2]); (try rw [if_pos c_76_5]); (try rw [if_pos c_85_7]); (try rw [if_neg c_95_8]); first | done | with_reducible rfl)).symm dX3_goesTo_104
          · refine lv_bipush (v := 7) hx hb dX3_goesTo_98 (by decide) ?_
            refine lv_goto (tgt := 104) hx hb dX3_goesTo_100 (by decide) ?_
            exact ro_iret hx hb hr hS hlocks (show s_X3_goesTo rr place token = 7 from by (unfold s_X3_goesTo; (try dsimp only); (try rw [if_pos c_3_1]); (try rw [if_pos k_13_2]); (try rw [if_pos c_76_5]); (try rw [if_pos c_85_7]); (try rw [if_pos c_95_8]); first | done | with_reducible rfl)).symm dX3_goesTo_104
        · refine lv_iconst (v := 2) hx hb dX3_goesTo_88 (by decide) ?_
          refine lv_goto (tgt := 104) hx hb dX3_goesTo_89 (by decide) ?_
          exact ro_iret hx hb hr hS hlocks (show s_X3_goesTo rr place token = 2 from by (unfold s_X3_goesTo; (try dsimp only); (try rw [if_pos c_3_1]); (try rw [if_pos k_13_2]); (try rw [if_pos c_76_5]); (try rw [if_neg c_85_7]); first | done | with_reducible rfl)).symm dX3_goesTo_104
    · by_cases k_13_9 : place = 1
      · refine lv_tableIn (tgt := 105) hx hb dX3_goesTo_13 (by rw [k_13_9]; decide) (by rw [k_13_9]; decide) (by rw [k_13_9]; rfl) (by decide) ?_
        refine lv_iload_n hx hb dX3_goesTo_105 rfl (lv_at hl 3 rfl) ?_
        refine lv_bipush (v := 8) hx hb dX3_goesTo_106 (by decide) ?_
        refine lv_icmp_ne (tgt := 115) hx hb dX3_goesTo_108 (by decide) (fun c_108_10 => ?_) (fun c_108_10 => ?_)
        · refine lv_iload_n hx hb dX3_goesTo_115 rfl (lv_at hl 3 rfl) ?_
          refine lv_bipush (v := 9) hx hb dX3_goesTo_116 (by decide) ?_
          refine lv_icmp_ne (tgt := 125) hx hb dX3_goesTo_118 (by decide) (fun c_118_11 => ?_) (fun c_118_11 => ?_)
          · refine lv_iload_n hx hb dX3_goesTo_125 rfl (lv_at hl 3 rfl) ?_
            refine lv_bipush (v := 12) hx hb dX3_goesTo_126 (by decide) ?_
            refine lv_icmp_ne (tgt := 135) hx hb dX3_goesTo_128 (by decide) (fun c_128_12 => ?_) (fun c_128_12 => ?_)
            · refine lv_iconst (v := (-1)) hx hb dX3_goesTo_135 (by decide) ?_
              exact ro_iret hx hb hr hS hlocks (show s_X3_goesTo rr place token = (-1) from by (unfold s_X3_goesTo; (try dsimp only); (try rw [if_pos c_3_1]); (try rw [if_neg k_13_2]); (try rw [if_pos k_13_9]); (try rw [if_neg c_108_10]); (try rw [if_neg c_118_11]); (try rw [if_neg c_128_12]); first | done | with_reducible rfl)).symm dX3_goesTo_136
            · refine lv_iconst (v := 0) hx hb dX3_goesTo_131 (by decide) ?_
              refine lv_goto (tgt := 136) hx hb dX3_goesTo_132 (by decide) ?_
              exact ro_iret hx hb hr hS hlocks (show s_X3_goesTo rr place token = 0 from by (unfold s_X3_goesTo; (try dsimp only); (try rw [if_pos c_3_1]); (try rw [if_neg k_13_2]); (try rw [if_pos k_13_9]); (try rw [if_neg c_108_10]); (try rw [if_neg c_118_11]); (try rw [if_pos c_128_12]); first | done | with_reducible rfl)).symm dX3_goesTo_136
          · refine lv_iconst (v := 5) hx hb dX3_goesTo_121 (by decide) ?_
            refine lv_goto (tgt := 136) hx hb dX3_goesTo_122 (by decide) ?_
            exact ro_iret hx hb hr hS hlocks (show s_X3_goesTo rr place token = 5 from by (unfold s_X3_goesTo; (try dsimp only); (try rw [if_pos c_3_1]); (try rw [if_neg k_13_2]); (try rw [if_pos k_13_9]); (try rw [if_neg c_108_10]); (try rw [if_pos c_118_11]); first | done | with_reducible rfl)).symm dX3_goesTo_136
        · refine lv_iconst (v := 3) hx hb dX3_goesTo_111 (by decide) ?_
          refine lv_goto (tgt := 136) hx hb dX3_goesTo_112 (by decide) ?_
          exact ro_iret hx hb hr hS hlocks (show s_X3_goesTo rr place token = 3 from by (unfold s_X3_goesTo; (try dsimp only); (try rw [if_pos c_3_1]); (try rw [if_neg k_13_2]); (try rw [if_pos k_13_9]); (try rw [if_pos c_108_10]); first | done | with_reducible rfl)).symm dX3_goesTo_136
      · by_cases k_13_13 : place = 2
        · refine lv_tableIn (tgt := 137) hx hb dX3_goesTo_13 (by rw [k_13_13]; decide) (by rw [k_13_13]; decide) (by rw [k_13_13]; rfl) (by decide) ?_
          refine lv_iload_n hx hb dX3_goesTo_137 rfl (lv_at hl 3 rfl) ?_
          refine lv_bipush (v := 8) hx hb dX3_goesTo_138 (by decide) ?_
          refine lv_icmp_ne (tgt := 147) hx hb dX3_goesTo_140 (by decide) (fun c_140_14 => ?_) (fun c_140_14 => ?_)
          · refine lv_iload_n hx hb dX3_goesTo_147 rfl (lv_at hl 3 rfl) ?_
            refine lv_bipush (v := 9) hx hb dX3_goesTo_148 (by decide) ?_
            refine lv_icmp_ne (tgt := 157) hx hb dX3_goesTo_150 (by decide) (fun c_150_15 => ?_) (fun c_150_15 => ?_)
            · refine lv_iconst (v := (-1)) hx hb dX3_goesTo_157 (by decide) ?_
              exact ro_iret hx hb hr hS hlocks (show s_X3_goesTo rr place token = (-1) from by (unfold s_X3_goesTo; (try dsimp only); (try rw [if_pos c_3_1]); (try rw [if_neg k_13_2]); (try rw [if_neg k_13_9]); (try rw [if_pos k_13_13]); (try rw [if_neg c_140_14]); (try rw [if_neg c_150_15]); first | done | with_reducible rfl)).symm dX3_goesTo_158
            · refine lv_iconst (v := 5) hx hb dX3_goesTo_153 (by decide) ?_
              refine lv_goto (tgt := 158) hx hb dX3_goesTo_154 (by decide) ?_
              exact ro_iret hx hb hr hS hlocks (show s_X3_goesTo rr place token = 5 from by (unfold s_X3_goesTo; (try dsimp only); (try rw [if_pos c_3_1]); (try rw [if_neg k_13_2]); (try rw [if_neg k_13_9]); (try rw [if_pos k_13_13]); (try rw [if_neg c_140_14]); (try rw [if_pos c_150_15]); first | done | with_reducible rfl)).symm dX3_goesTo_158
          · refine lv_iconst (v := 3) hx hb dX3_goesTo_143 (by decide) ?_
            refine lv_goto (tgt := 158) hx hb dX3_goesTo_144 (by decide) ?_
            exact ro_iret hx hb hr hS hlocks (show s_X3_goesTo rr place token = 3 from by (unfold s_X3_goesTo; (try dsimp only); (try rw [if_pos c_3_1]); (try rw [if_neg k_13_2]); (try rw [if_neg k_13_9]); (try rw [if_pos k_13_13]); (try rw [if_pos c_140_14]); first | done | with_reducible rfl)).symm dX3_goesTo_158
        · by_cases k_13_16 : place = 3
          · refine lv_tableIn (tgt := 159) hx hb dX3_goesTo_13 (by rw [k_13_16]; decide) (by rw [k_13_16]; decide) (by rw [k_13_16]; rfl) (by decide) ?_
            refine lv_iload_n hx hb dX3_goesTo_159 rfl (lv_at hl 0 rfl) ?_
            refine lv_if_eq (tgt := 167) hx hb dX3_goesTo_160 (by decide) (fun _ => ?_) (fun hh_18 => absurd (by decide) hh_18)
            refine lv_iconst (v := (-1)) hx hb dX3_goesTo_167 (by decide) ?_
            exact ro_iret hx hb hr hS hlocks (show s_X3_goesTo rr place token = (-1) from by (unfold s_X3_goesTo; (try dsimp only); (try rw [if_pos c_3_1]); (try rw [if_neg k_13_2]); (try rw [if_neg k_13_9]); (try rw [if_neg k_13_13]); (try rw [if_pos k_13_16]); first | done | with_reducible rfl)).symm dX3_goesTo_168
          · by_cases k_13_19 : place = 4
            · refine lv_tableIn (tgt := 169) hx hb dX3_goesTo_13 (by rw [k_13_19]; decide) (by rw [k_13_19]; decide) (by rw [k_13_19]; rfl) (by decide) ?_
              refine lv_iload_n hx hb dX3_goesTo_169 rfl (lv_at hl 0 rfl) ?_
              refine lv_if_eq (tgt := 177) hx hb dX3_goesTo_170 (by decide) (fun _ => ?_) (fun hh_21 => absurd (by decide) hh_21)
              refine lv_iload_n hx hb dX3_goesTo_177 rfl (lv_at hl 3 rfl) ?_
              refine lv_bipush (v := 9) hx hb dX3_goesTo_178 (by decide) ?_
              refine lv_icmp_ne (tgt := 187) hx hb dX3_goesTo_180 (by decide) (fun c_180_22 => ?_) (fun c_180_22 => ?_)
              · refine lv_iload_n hx hb dX3_goesTo_187 rfl (lv_at hl 3 rfl) ?_
                refine lv_bipush (v := 12) hx hb dX3_goesTo_188 (by decide) ?_
                refine lv_icmp_ne (tgt := 197) hx hb dX3_goesTo_190 (by decide) (fun c_190_23 => ?_) (fun c_190_23 => ?_)
                · refine lv_iconst (v := (-1)) hx hb dX3_goesTo_197 (by decide) ?_
                  exact ro_iret hx hb hr hS hlocks (show s_X3_goesTo rr place token = (-1) from by (unfold s_X3_goesTo; (try dsimp only); (try rw [if_pos c_3_1]); (try rw [if_neg k_13_2]); (try rw [if_neg k_13_9]); (try rw [if_neg k_13_13]); (try rw [if_neg k_13_16]); (try rw [if_pos k_13_19]); (try rw [if_neg c_180_22]); (try rw [if_neg c_190_23]); first | done | with_reducible rfl)).symm dX3_goesTo_198
                · refine lv_iconst (v := 0) hx hb dX3_goesTo_193 (by decide) ?_
                  refine lv_goto (tgt := 198) hx hb dX3_goesTo_194 (by decide) ?_
                  exact ro_iret hx hb hr hS hlocks (show s_X3_goesTo rr place token = 0 from by (unfold s_X3_goesTo; (try dsimp only); (try rw [if_pos c_3_1]); (try rw [if_neg k_13_2]); (try rw [if_neg k_13_9]); (try rw [if_neg k_13_13]); (try rw [if_neg k_13_16]); (try rw [if_pos k_13_19]); (try rw [if_neg c_180_22]); (try rw [if_pos c_190_23]); first | done | with_reducible rfl)).symm dX3_goesTo_198
              · refine lv_iconst (v := 5) hx hb dX3_goesTo_183 (by decide) ?_
                refine lv_goto (tgt := 198) hx hb dX3_goesTo_184 (by decide) ?_
                exact ro_iret hx hb hr hS hlocks (show s_X3_goesTo rr place token = 5 from by (unfold s_X3_goesTo; (try dsimp only); (try rw [if_pos c_3_1]); (try rw [if_neg k_13_2]); (try rw [if_neg k_13_9]); (try rw [if_neg k_13_13]); (try rw [if_neg k_13_16]); (try rw [if_pos k_13_19]); (try rw [if_pos c_180_22]); first | done | with_reducible rfl)).symm dX3_goesTo_198
            · by_cases k_13_24 : place = 5
              · refine lv_tableIn (tgt := 199) hx hb dX3_goesTo_13 (by rw [k_13_24]; decide) (by rw [k_13_24]; decide) (by rw [k_13_24]; rfl) (by decide) ?_
                refine lv_iload_n hx hb dX3_goesTo_199 rfl (lv_at hl 0 rfl) ?_
                refine lv_if_eq (tgt := 208) hx hb dX3_goesTo_200 (by decide) (fun _ => ?_) (fun hh_26 => absurd (by decide) hh_26)
                refine lv_iload_n hx hb dX3_goesTo_208 rfl (lv_at hl 2 rfl) ?_
                refine lv_bipush (v := 6) hx hb dX3_goesTo_209 (by decide) ?_
                refine lv_icmp_ne (tgt := 224) hx hb dX3_goesTo_211 (by decide) (fun c_211_27 => ?_) (fun c_211_27 => ?_)
                · refine lv_iconst (v := (-1)) hx hb dX3_goesTo_224 (by decide) ?_
                  exact ro_iret hx hb hr hS hlocks (show s_X3_goesTo rr place token = (-1) from by (unfold s_X3_goesTo; (try dsimp only); (try rw [if_pos c_3_1]); (try rw [if_neg k_13_2]); (try rw [if_neg k_13_9]); (try rw [if_neg k_13_13]); (try rw [if_neg k_13_16]); (try rw [if_neg k_13_19]); (try rw [if_pos k_13_24]); (try rw [if_neg c_211_27]); first | done | with_reducible rfl)).symm dX3_goesTo_225
                · refine lv_iload_n hx hb dX3_goesTo_214 rfl (lv_at hl 3 rfl) ?_
                  refine lv_bipush (v := 12) hx hb dX3_goesTo_215 (by decide) ?_
                  refine lv_icmp_ne (tgt := 224) hx hb dX3_goesTo_217 (by decide) (fun c_217_28 => ?_) (fun c_217_28 => ?_)
                  · refine lv_iconst (v := (-1)) hx hb dX3_goesTo_224 (by decide) ?_
                    exact ro_iret hx hb hr hS hlocks (show s_X3_goesTo rr place token = (-1) from by (unfold s_X3_goesTo; (try dsimp only); (try rw [if_pos c_3_1]); (try rw [if_neg k_13_2]); (try rw [if_neg k_13_9]); (try rw [if_neg k_13_13]); (try rw [if_neg k_13_16]); (try rw [if_neg k_13_19]); (try rw [if_pos k_13_24]); (try rw [if_pos c_211_27]); (try rw [if_neg c_217_28]); first | done | with_reducible rfl)).symm dX3_goesTo_225
                  · refine lv_iconst (v := 0) hx hb dX3_goesTo_220 (by decide) ?_
                    refine lv_goto (tgt := 225) hx hb dX3_goesTo_221 (by decide) ?_
                    exact ro_iret hx hb hr hS hlocks (show s_X3_goesTo rr place token = 0 from by (unfold s_X3_goesTo; (try dsimp only); (try rw [if_pos c_3_1]); (try rw [if_neg k_13_2]); (try rw [if_neg k_13_9]); (try rw [if_neg k_13_13]); (try rw [if_neg k_13_16]); (try rw [if_neg k_13_19]); (try rw [if_pos k_13_24]); (try rw [if_pos c_211_27]); (try rw [if_pos c_217_28]); first | done | with_reducible rfl)).symm dX3_goesTo_225
              · by_cases k_13_29 : place = 6
                · refine lv_tableIn (tgt := 199) hx hb dX3_goesTo_13 (by rw [k_13_29]; decide) (by rw [k_13_29]; decide) (by rw [k_13_29]; rfl) (by decide) ?_
                  refine lv_iload_n hx hb dX3_goesTo_199 rfl (lv_at hl 0 rfl) ?_
                  refine lv_if_eq (tgt := 208) hx hb dX3_goesTo_200 (by decide) (fun _ => ?_) (fun hh_31 => absurd (by decide) hh_31)
                  refine lv_iload_n hx hb dX3_goesTo_208 rfl (lv_at hl 2 rfl) ?_
                  refine lv_bipush (v := 6) hx hb dX3_goesTo_209 (by decide) ?_
                  refine lv_icmp_ne (tgt := 224) hx hb dX3_goesTo_211 (by decide) (fun hh_33 => absurd k_13_29 hh_33) (fun _ => ?_)
                  refine lv_iload_n hx hb dX3_goesTo_214 rfl (lv_at hl 3 rfl) ?_
                  refine lv_bipush (v := 12) hx hb dX3_goesTo_215 (by decide) ?_
                  refine lv_icmp_ne (tgt := 224) hx hb dX3_goesTo_217 (by decide) (fun c_217_34 => ?_) (fun c_217_34 => ?_)
                  · refine lv_iconst (v := (-1)) hx hb dX3_goesTo_224 (by decide) ?_
                    exact ro_iret hx hb hr hS hlocks (show s_X3_goesTo rr place token = (-1) from by (unfold s_X3_goesTo; (try dsimp only); (try rw [if_pos c_3_1]); (try rw [if_neg k_13_2]); (try rw [if_neg k_13_9]); (try rw [if_neg k_13_13]); (try rw [if_neg k_13_16]); (try rw [if_neg k_13_19]); (try rw [if_neg k_13_24]); (try rw [if_pos k_13_29]); (try rw [if_neg c_217_34]); first | done | with_reducible rfl)).symm dX3_goesTo_225
                  · refine lv_iconst (v := 0) hx hb dX3_goesTo_220 (by decide) ?_
                    refine lv_goto (tgt := 225) hx hb dX3_goesTo_221 (by decide) ?_
                    exact ro_iret hx hb hr hS hlocks (show s_X3_goesTo rr place token = 0 from by (unfold s_X3_goesTo; (try dsimp only); (try rw [if_pos c_3_1]); (try rw [if_neg k_13_2]); (try rw [if_neg k_13_9]); (try rw [if_neg k_13_13]); (try rw [if_neg k_13_16]); (try rw [if_neg k_13_19]); (try rw [if_neg k_13_24]); (try rw [if_pos k_13_29]); (try rw [if_pos c_217_34]); first | done | with_reducible rfl)).symm dX3_goesTo_225
                · have ne_35 := lv_neT (a := 0) k_13_2 (by decide)
                  have ne_36 := lv_neT (a := 1) k_13_9 (by decide)
                  have ne_37 := lv_neT (a := 2) k_13_13 (by decide)
                  have ne_38 := lv_neT (a := 3) k_13_16 (by decide)
                  have ne_39 := lv_neT (a := 4) k_13_19 (by decide)
                  have ne_40 := lv_neT (a := 5) k_13_24 (by decide)
                  have ne_41 := lv_neT (a := 6) k_13_29 (by decide)
                  refine lv_tableOut (tgt := 226) hx hb dX3_goesTo_13 (by omega) (by decide) ?_
                  refine lv_iload_n hx hb dX3_goesTo_226 rfl (lv_at hl 0 rfl) ?_
                  refine lv_if_eq (tgt := 235) hx hb dX3_goesTo_227 (by decide) (fun _ => ?_) (fun hh_43 => absurd (by decide) hh_43)
                  refine lv_iload_n hx hb dX3_goesTo_235 rfl (lv_at hl 2 rfl) ?_
                  refine lv_bipush (v := 8) hx hb dX3_goesTo_236 (by decide) ?_
                  refine lv_icmp_ne (tgt := 251) hx hb dX3_goesTo_238 (by decide) (fun c_238_44 => ?_) (fun c_238_44 => ?_)
                  · refine lv_iconst (v := (-1)) hx hb dX3_goesTo_251 (by decide) ?_
                    exact ro_iret hx hb hr hS hlocks (show s_X3_goesTo rr place token = (-1) from by (unfold s_X3_goesTo; (try dsimp only); (try rw [if_pos c_3_1]); (try rw [if_neg k_13_2]); (try rw [if_neg k_13_9]); (try rw [if_neg k_13_13]); (try rw [if_neg k_13_16]); (try rw [if_neg k_13_19]); (try rw [if_neg k_13_24]); (try rw [if_neg k_13_29]); (try rw [if_neg c_238_44]); first | done | with_reducible rfl)).symm dX3_goesTo_252
                  · refine lv_iload_n hx hb dX3_goesTo_241 rfl (lv_at hl 3 rfl) ?_
                    refine lv_bipush (v := 12) hx hb dX3_goesTo_242 (by decide) ?_
                    refine lv_icmp_ne (tgt := 251) hx hb dX3_goesTo_244 (by decide) (fun c_244_45 => ?_) (fun c_244_45 => ?_)
                    · refine lv_iconst (v := (-1)) hx hb dX3_goesTo_251 (by decide) ?_
                      exact ro_iret hx hb hr hS hlocks (show s_X3_goesTo rr place token = (-1) from by (unfold s_X3_goesTo; (try dsimp only); (try rw [if_pos c_3_1]); (try rw [if_neg k_13_2]); (try rw [if_neg k_13_9]); (try rw [if_neg k_13_13]); (try rw [if_neg k_13_16]); (try rw [if_neg k_13_19]); (try rw [if_neg k_13_24]); (try rw [if_neg k_13_29]); (try rw [if_pos c_238_44]); (try rw [if_neg c_244_45]); first | done | with_reducible rfl)).symm dX3_goesTo_252
                    · refine lv_iconst (v := 0) hx hb dX3_goesTo_247 (by decide) ?_
                      refine lv_goto (tgt := 252) hx hb dX3_goesTo_248 (by decide) ?_
                      exact ro_iret hx hb hr hS hlocks (show s_X3_goesTo rr place token = 0 from by (unfold s_X3_goesTo; (try dsimp only); (try rw [if_pos c_3_1]); (try rw [if_neg k_13_2]); (try rw [if_neg k_13_9]); (try rw [if_neg k_13_13]); (try rw [if_neg k_13_16]); (try rw [if_neg k_13_19]); (try rw [if_neg k_13_24]); (try rw [if_neg k_13_29]); (try rw [if_pos c_238_44]); (try rw [if_pos c_244_45]); first | done | with_reducible rfl)).symm dX3_goesTo_252
  · refine lv_iconst (v := 1) hx hb dX3_goesTo_6 (by decide) ?_
    refine lv_goto (tgt := 11) hx hb dX3_goesTo_7 (by decide) ?_
    refine lv_istore_n (lv' := [(3, .int 1), (0, .ref (h 0)), (1, .int place), (2, .int token)]) hx hb dX3_goesTo_11 rfl hl (by decide) rfl (fun ls hl => ?_)
    refine lv_iload_n hx hb dX3_goesTo_12 rfl (lv_at hl 2 rfl) ?_
    by_cases k_13_46 : place = 0
    · refine lv_tableIn (tgt := 56) hx hb dX3_goesTo_13 (by rw [k_13_46]; decide) (by rw [k_13_46]; decide) (by rw [k_13_46]; rfl) (by decide) ?_
      refine lv_iload_n hx hb dX3_goesTo_56 rfl (lv_at hl 0 rfl) ?_
      refine lv_if_eq (tgt := 73) hx hb dX3_goesTo_57 (by decide) (fun hh_48 => absurd hh_48 (by decide)) (fun _ => ?_)
      refine lv_aload_n hx hb dX3_goesTo_60 rfl (lv_at hl 1 rfl) ?_
      refine va_get (D := D) (ci := 3) (v := .int (nI rr)) (C := RX3) (T := TX3) (N := 26) hx hb hts hinX3 hown hK hP 0 rfl rfl 18 (by decide) (hts (.fieldLink RX3 96 "HoldUnlessModel" "readRules" "I") (by decide +kernel)) (fun _ h9 => h9) rfl dX3_goesTo_61 ?_
      refine lv_bipush (v := 10) hx hb dX3_goesTo_64 (by decide) ?_
      refine lv_icmp_ge (tgt := 73) hx hb dX3_goesTo_66 (by decide) (fun c_66_49 => ?_) (fun c_66_49 => ?_)
      · refine lv_iload_n hx hb dX3_goesTo_73 rfl (lv_at hl 3 rfl) ?_
        refine lv_bipush (v := 10) hx hb dX3_goesTo_74 (by decide) ?_
        refine lv_icmp_ne (tgt := 92) hx hb dX3_goesTo_76 (by decide) (fun c_76_50 => ?_) (fun c_76_50 => ?_)
        · refine lv_iload_n hx hb dX3_goesTo_92 rfl (lv_at hl 3 rfl) ?_
          refine lv_bipush (v := 11) hx hb dX3_goesTo_93 (by decide) ?_
          refine lv_icmp_ne (tgt := 103) hx hb dX3_goesTo_95 (by decide) (fun c_95_51 => ?_) (fun c_95_51 => ?_)
          · refine lv_iconst (v := (-1)) hx hb dX3_goesTo_103 (by decide) ?_
            exact ro_iret hx hb hr hS hlocks (show s_X3_goesTo rr place token = (-1) from by (unfold s_X3_goesTo; (try dsimp only); (try rw [if_neg c_3_1]); (try rw [if_pos k_13_46]); (try rw [if_pos c_66_49]); (try rw [if_neg c_76_50]); (try rw [if_neg c_95_51]); first | done | with_reducible rfl)).symm dX3_goesTo_104
          · refine lv_bipush (v := 7) hx hb dX3_goesTo_98 (by decide) ?_
            refine lv_goto (tgt := 104) hx hb dX3_goesTo_100 (by decide) ?_
            exact ro_iret hx hb hr hS hlocks (show s_X3_goesTo rr place token = 7 from by (unfold s_X3_goesTo; (try dsimp only); (try rw [if_neg c_3_1]); (try rw [if_pos k_13_46]); (try rw [if_pos c_66_49]); (try rw [if_neg c_76_50]); (try rw [if_pos c_95_51]); first | done | with_reducible rfl)).symm dX3_goesTo_104
        · refine lv_aload_n hx hb dX3_goesTo_79 rfl (lv_at hl 1 rfl) ?_
          refine va_get (D := D) (ci := 3) (v := .int (nI rr)) (C := RX3) (T := TX3) (N := 26) hx hb hts hinX3 hown hK hP 0 rfl rfl 18 (by decide) (hts (.fieldLink RX3 96 "HoldUnlessModel" "readRules" "I") (by decide +kernel)) (fun _ h9 => h9) rfl dX3_goesTo_80 ?_
          refine lv_bipush (v := 10) hx hb dX3_goesTo_83 (by decide) ?_
          refine lv_icmp_ge (tgt := 92) hx hb dX3_goesTo_85 (by decide) (fun _ => ?_) (fun hh_53 => absurd c_66_49 hh_53)
          refine lv_iload_n hx hb dX3_goesTo_92 rfl (lv_at hl 3 rfl) ?_
          refine lv_bipush (v := 11) hx hb dX3_goesTo_93 (by decide) ?_
          refine lv_icmp_ne (tgt := 103) hx hb dX3_goesTo_95 (by decide) (fun c_95_54 => ?_) (fun c_95_54 => ?_)
          · refine lv_iconst (v := (-1)) hx hb dX3_goesTo_103 (by decide) ?_
            exact ro_iret hx hb hr hS hlocks (show s_X3_goesTo rr place token = (-1) from by (unfold s_X3_goesTo; (try dsimp only); (try rw [if_neg c_3_1]); (try rw [if_pos k_13_46]); (try rw [if_pos c_66_49]); (try rw [if_pos c_76_50]); (try rw [if_neg c_95_54]); first | done | with_reducible rfl)).symm dX3_goesTo_104
          · refine lv_bipush (v := 7) hx hb dX3_goesTo_98 (by decide) ?_
            refine lv_goto (tgt := 104) hx hb dX3_goesTo_100 (by decide) ?_
            exact ro_iret hx hb hr hS hlocks (show s_X3_goesTo rr place token = 7 from by (unfold s_X3_goesTo; (try dsimp only); (try rw [if_neg c_3_1]); (try rw [if_pos k_13_46]); (try rw [if_pos c_66_49]); (try rw [if_pos c_76_50]); (try rw [if_pos c_95_54]); first | done | with_reducible rfl)).symm dX3_goesTo_104
      · refine lv_iconst (v := 1) hx hb dX3_goesTo_69 (by decide) ?_
        refine lv_goto (tgt := 104) hx hb dX3_goesTo_70 (by decide) ?_
        exact ro_iret hx hb hr hS hlocks (show s_X3_goesTo rr place token = 1 from by (unfold s_X3_goesTo; (try dsimp only); (try rw [if_neg c_3_1]); (try rw [if_pos k_13_46]); (try rw [if_neg c_66_49]); first | done | with_reducible rfl)).symm dX3_goesTo_104
    · by_cases k_13_55 : place = 1
      · refine lv_tableIn (tgt := 105) hx hb dX3_goesTo_13 (by rw [k_13_55]; decide) (by rw [k_13_55]; decide) (by rw [k_13_55]; rfl) (by decide) ?_
        refine lv_iload_n hx hb dX3_goesTo_105 rfl (lv_at hl 3 rfl) ?_
        refine lv_bipush (v := 8) hx hb dX3_goesTo_106 (by decide) ?_
        refine lv_icmp_ne (tgt := 115) hx hb dX3_goesTo_108 (by decide) (fun c_108_56 => ?_) (fun c_108_56 => ?_)
        · refine lv_iload_n hx hb dX3_goesTo_115 rfl (lv_at hl 3 rfl) ?_
          refine lv_bipush (v := 9) hx hb dX3_goesTo_116 (by decide) ?_
          refine lv_icmp_ne (tgt := 125) hx hb dX3_goesTo_118 (by decide) (fun c_118_57 => ?_) (fun c_118_57 => ?_)
          · refine lv_iload_n hx hb dX3_goesTo_125 rfl (lv_at hl 3 rfl) ?_
            refine lv_bipush (v := 12) hx hb dX3_goesTo_126 (by decide) ?_
            refine lv_icmp_ne (tgt := 135) hx hb dX3_goesTo_128 (by decide) (fun c_128_58 => ?_) (fun c_128_58 => ?_)
            · refine lv_iconst (v := (-1)) hx hb dX3_goesTo_135 (by decide) ?_
              exact ro_iret hx hb hr hS hlocks (show s_X3_goesTo rr place token = (-1) from by (unfold s_X3_goesTo; (try dsimp only); (try rw [if_neg c_3_1]); (try rw [if_neg k_13_46]); (try rw [if_pos k_13_55]); (try rw [if_neg c_108_56]); (try rw [if_neg c_118_57]); (try rw [if_neg c_128_58]); first | done | with_reducible rfl)).symm dX3_goesTo_136
            · refine lv_iconst (v := 0) hx hb dX3_goesTo_131 (by decide) ?_
              refine lv_goto (tgt := 136) hx hb dX3_goesTo_132 (by decide) ?_
              exact ro_iret hx hb hr hS hlocks (show s_X3_goesTo rr place token = 0 from by (unfold s_X3_goesTo; (try dsimp only); (try rw [if_neg c_3_1]); (try rw [if_neg k_13_46]); (try rw [if_pos k_13_55]); (try rw [if_neg c_108_56]); (try rw [if_neg c_118_57]); (try rw [if_pos c_128_58]); first | done | with_reducible rfl)).symm dX3_goesTo_136
          · refine lv_iconst (v := 5) hx hb dX3_goesTo_121 (by decide) ?_
            refine lv_goto (tgt := 136) hx hb dX3_goesTo_122 (by decide) ?_
            exact ro_iret hx hb hr hS hlocks (show s_X3_goesTo rr place token = 5 from by (unfold s_X3_goesTo; (try dsimp only); (try rw [if_neg c_3_1]); (try rw [if_neg k_13_46]); (try rw [if_pos k_13_55]); (try rw [if_neg c_108_56]); (try rw [if_pos c_118_57]); first | done | with_reducible rfl)).symm dX3_goesTo_136
        · refine lv_iconst (v := 3) hx hb dX3_goesTo_111 (by decide) ?_
          refine lv_goto (tgt := 136) hx hb dX3_goesTo_112 (by decide) ?_
          exact ro_iret hx hb hr hS hlocks (show s_X3_goesTo rr place token = 3 from by (unfold s_X3_goesTo; (try dsimp only); (try rw [if_neg c_3_1]); (try rw [if_neg k_13_46]); (try rw [if_pos k_13_55]); (try rw [if_pos c_108_56]); first | done | with_reducible rfl)).symm dX3_goesTo_136
      · by_cases k_13_59 : place = 2
        · refine lv_tableIn (tgt := 137) hx hb dX3_goesTo_13 (by rw [k_13_59]; decide) (by rw [k_13_59]; decide) (by rw [k_13_59]; rfl) (by decide) ?_
          refine lv_iload_n hx hb dX3_goesTo_137 rfl (lv_at hl 3 rfl) ?_
          refine lv_bipush (v := 8) hx hb dX3_goesTo_138 (by decide) ?_
          refine lv_icmp_ne (tgt := 147) hx hb dX3_goesTo_140 (by decide) (fun c_140_60 => ?_) (fun c_140_60 => ?_)
          · refine lv_iload_n hx hb dX3_goesTo_147 rfl (lv_at hl 3 rfl) ?_
            refine lv_bipush (v := 9) hx hb dX3_goesTo_148 (by decide) ?_
            refine lv_icmp_ne (tgt := 157) hx hb dX3_goesTo_150 (by decide) (fun c_150_61 => ?_) (fun c_150_61 => ?_)
            · refine lv_iconst (v := (-1)) hx hb dX3_goesTo_157 (by decide) ?_
              exact ro_iret hx hb hr hS hlocks (show s_X3_goesTo rr place token = (-1) from by (unfold s_X3_goesTo; (try dsimp only); (try rw [if_neg c_3_1]); (try rw [if_neg k_13_46]); (try rw [if_neg k_13_55]); (try rw [if_pos k_13_59]); (try rw [if_neg c_140_60]); (try rw [if_neg c_150_61]); first | done | with_reducible rfl)).symm dX3_goesTo_158
            · refine lv_iconst (v := 5) hx hb dX3_goesTo_153 (by decide) ?_
              refine lv_goto (tgt := 158) hx hb dX3_goesTo_154 (by decide) ?_
              exact ro_iret hx hb hr hS hlocks (show s_X3_goesTo rr place token = 5 from by (unfold s_X3_goesTo; (try dsimp only); (try rw [if_neg c_3_1]); (try rw [if_neg k_13_46]); (try rw [if_neg k_13_55]); (try rw [if_pos k_13_59]); (try rw [if_neg c_140_60]); (try rw [if_pos c_150_61]); first | done | with_reducible rfl)).symm dX3_goesTo_158
          · refine lv_iconst (v := 3) hx hb dX3_goesTo_143 (by decide) ?_
            refine lv_goto (tgt := 158) hx hb dX3_goesTo_144 (by decide) ?_
            exact ro_iret hx hb hr hS hlocks (show s_X3_goesTo rr place token = 3 from by (unfold s_X3_goesTo; (try dsimp only); (try rw [if_neg c_3_1]); (try rw [if_neg k_13_46]); (try rw [if_neg k_13_55]); (try rw [if_pos k_13_59]); (try rw [if_pos c_140_60]); first | done | with_reducible rfl)).symm dX3_goesTo_158
        · by_cases k_13_62 : place = 3
          · refine lv_tableIn (tgt := 159) hx hb dX3_goesTo_13 (by rw [k_13_62]; decide) (by rw [k_13_62]; decide) (by rw [k_13_62]; rfl) (by decide) ?_
            refine lv_iload_n hx hb dX3_goesTo_159 rfl (lv_at hl 0 rfl) ?_
            refine lv_if_eq (tgt := 167) hx hb dX3_goesTo_160 (by decide) (fun hh_64 => absurd hh_64 (by decide)) (fun _ => ?_)
            refine lv_iconst (v := 4) hx hb dX3_goesTo_163 (by decide) ?_
            refine lv_goto (tgt := 168) hx hb dX3_goesTo_164 (by decide) ?_
            exact ro_iret hx hb hr hS hlocks (show s_X3_goesTo rr place token = 4 from by (unfold s_X3_goesTo; (try dsimp only); (try rw [if_neg c_3_1]); (try rw [if_neg k_13_46]); (try rw [if_neg k_13_55]); (try rw [if_neg k_13_59]); (try rw [if_pos k_13_62]); first | done | with_reducible rfl)).symm dX3_goesTo_168
          · by_cases k_13_65 : place = 4
            · refine lv_tableIn (tgt := 169) hx hb dX3_goesTo_13 (by rw [k_13_65]; decide) (by rw [k_13_65]; decide) (by rw [k_13_65]; rfl) (by decide) ?_
              refine lv_iload_n hx hb dX3_goesTo_169 rfl (lv_at hl 0 rfl) ?_
              refine lv_if_eq (tgt := 177) hx hb dX3_goesTo_170 (by decide) (fun hh_67 => absurd hh_67 (by decide)) (fun _ => ?_)
              refine lv_iconst (v := 4) hx hb dX3_goesTo_173 (by decide) ?_
              refine lv_goto (tgt := 198) hx hb dX3_goesTo_174 (by decide) ?_
              exact ro_iret hx hb hr hS hlocks (show s_X3_goesTo rr place token = 4 from by (unfold s_X3_goesTo; (try dsimp only); (try rw [if_neg c_3_1]); (try rw [if_neg k_13_46]); (try rw [if_neg k_13_55]); (try rw [if_neg k_13_59]); (try rw [if_neg k_13_62]); (try rw [if_pos k_13_65]); first | done | with_reducible rfl)).symm dX3_goesTo_198
            · by_cases k_13_68 : place = 5
              · refine lv_tableIn (tgt := 199) hx hb dX3_goesTo_13 (by rw [k_13_68]; decide) (by rw [k_13_68]; decide) (by rw [k_13_68]; rfl) (by decide) ?_
                refine lv_iload_n hx hb dX3_goesTo_199 rfl (lv_at hl 0 rfl) ?_
                refine lv_if_eq (tgt := 208) hx hb dX3_goesTo_200 (by decide) (fun hh_70 => absurd hh_70 (by decide)) (fun _ => ?_)
                refine lv_bipush (v := 6) hx hb dX3_goesTo_203 (by decide) ?_
                refine lv_goto (tgt := 225) hx hb dX3_goesTo_205 (by decide) ?_
                exact ro_iret hx hb hr hS hlocks (show s_X3_goesTo rr place token = 6 from by (unfold s_X3_goesTo; (try dsimp only); (try rw [if_neg c_3_1]); (try rw [if_neg k_13_46]); (try rw [if_neg k_13_55]); (try rw [if_neg k_13_59]); (try rw [if_neg k_13_62]); (try rw [if_neg k_13_65]); (try rw [if_pos k_13_68]); first | done | with_reducible rfl)).symm dX3_goesTo_225
              · by_cases k_13_71 : place = 6
                · refine lv_tableIn (tgt := 199) hx hb dX3_goesTo_13 (by rw [k_13_71]; decide) (by rw [k_13_71]; decide) (by rw [k_13_71]; rfl) (by decide) ?_
                  refine lv_iload_n hx hb dX3_goesTo_199 rfl (lv_at hl 0 rfl) ?_
                  refine lv_if_eq (tgt := 208) hx hb dX3_goesTo_200 (by decide) (fun hh_73 => absurd hh_73 (by decide)) (fun _ => ?_)
                  refine lv_bipush (v := 6) hx hb dX3_goesTo_203 (by decide) ?_
                  refine lv_goto (tgt := 225) hx hb dX3_goesTo_205 (by decide) ?_
                  exact ro_iret hx hb hr hS hlocks (show s_X3_goesTo rr place token = 6 from by (unfold s_X3_goesTo; (try dsimp only); (try rw [if_neg c_3_1]); (try rw [if_neg k_13_46]); (try rw [if_neg k_13_55]); (try rw [if_neg k_13_59]); (try rw [if_neg k_13_62]); (try rw [if_neg k_13_65]); (try rw [if_neg k_13_68]); (try rw [if_pos k_13_71]); first | done | with_reducible rfl)).symm dX3_goesTo_225
                · have ne_74 := lv_neT (a := 0) k_13_46 (by decide)
                  have ne_75 := lv_neT (a := 1) k_13_55 (by decide)
                  have ne_76 := lv_neT (a := 2) k_13_59 (by decide)
                  have ne_77 := lv_neT (a := 3) k_13_62 (by decide)
                  have ne_78 := lv_neT (a := 4) k_13_65 (by decide)
                  have ne_79 := lv_neT (a := 5) k_13_68 (by decide)
                  have ne_80 := lv_neT (a := 6) k_13_71 (by decide)
                  refine lv_tableOut (tgt := 226) hx hb dX3_goesTo_13 (by omega) (by decide) ?_
                  refine lv_iload_n hx hb dX3_goesTo_226 rfl (lv_at hl 0 rfl) ?_
                  refine lv_if_eq (tgt := 235) hx hb dX3_goesTo_227 (by decide) (fun hh_82 => absurd hh_82 (by decide)) (fun _ => ?_)
                  refine lv_bipush (v := 8) hx hb dX3_goesTo_230 (by decide) ?_
                  refine lv_goto (tgt := 252) hx hb dX3_goesTo_232 (by decide) ?_
                  exact ro_iret hx hb hr hS hlocks (show s_X3_goesTo rr place token = 8 from by (unfold s_X3_goesTo; (try dsimp only); (try rw [if_neg c_3_1]); (try rw [if_neg k_13_46]); (try rw [if_neg k_13_55]); (try rw [if_neg k_13_59]); (try rw [if_neg k_13_62]); (try rw [if_neg k_13_65]); (try rw [if_neg k_13_68]); (try rw [if_neg k_13_71]); first | done | with_reducible rfl)).symm dX3_goesTo_252

