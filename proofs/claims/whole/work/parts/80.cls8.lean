section
variable {l : Launch} {G : zG} {Z : zS} {I I' : zI} {g g' : Nat → Int32} {mk b : Nat} {Q : Option Value → zS → zI → Prop}
theorem c_X7_joinBy {j : Nat} {x y : Int32} (hj : signOK j) (hq : Q (some (.int (joinF (nI j) x y))) Z I) : zM l G mX7_joinBy 0 0 0 [.int (nI j), .int x, .int y] Z I Q := by
  refine x_entry [some (.int (nI j)), some (.int x), some (.int y)] 0 rfl rfl (Nat.le_of_ble_eq_true rfl) ?_
  unfold joinF at hq
  rcases hj with rfl | rfl | rfl | rfl | rfl | rfl | rfl | rfl | rfl <;> rw [ix_nI (by decide)] at hq
  · skip
    refine x_ild0 (n := 1) dX7_joinBy_0 rfl ?_
    refine x_tswI (n := 132) (off := 131) dX7_joinBy_1 (by decide) (by decide) (by decide +kernel) (by decide) ?_
    refine x_ild1 (n := 133) dX7_joinBy_132 rfl ?_
    refine x_ild2 (n := 134) dX7_joinBy_133 rfl ?_
    refine x_iadd (n := 135) dX7_joinBy_134 rfl ?_
    refine r_iret dX7_joinBy_135 rfl ?_
    exact hq
  · skip
    refine x_ild0 (n := 1) dX7_joinBy_0 rfl ?_
    refine x_tswI (n := 136) (off := 135) dX7_joinBy_1 (by decide) (by decide) (by decide +kernel) (by decide) ?_
    refine x_ild1 (n := 137) dX7_joinBy_136 rfl ?_
    refine x_ild2 (n := 138) dX7_joinBy_137 rfl ?_
    refine x_isub (n := 139) dX7_joinBy_138 rfl ?_
    refine r_iret dX7_joinBy_139 rfl ?_
    exact hq
  · skip
    refine x_ild0 (n := 1) dX7_joinBy_0 rfl ?_
    refine x_tswI (n := 116) (off := 115) dX7_joinBy_1 (by decide) (by decide) (by decide +kernel) (by decide) ?_
    refine x_ild1 (n := 117) dX7_joinBy_116 rfl ?_
    refine x_ild2 (n := 118) dX7_joinBy_117 rfl ?_
    refine x_imul (n := 119) dX7_joinBy_118 rfl ?_
    refine r_iret dX7_joinBy_119 rfl ?_
    exact hq
  · have hq' : Q (some (.int (if y = 0 then nI 0 else x / y))) Z I := hq
    refine x_ild0 (n := 1) dX7_joinBy_0 rfl ?_
    refine x_tswI (n := 120) (off := 119) dX7_joinBy_1 (by decide) (by decide) (by decide +kernel) (by decide) ?_
    refine x_ild2 (n := 121) dX7_joinBy_120 rfl ?_
    refine x_if_ne (n := 124) (tgt := 128) dX7_joinBy_121 rfl (by decide) (fun c_121 => ?_) (fun c_121 => ?_)
    · refine x_ild1 (n := 129) dX7_joinBy_128 rfl ?_
      refine x_ild2 (n := 130) dX7_joinBy_129 rfl ?_
      refine x_idiv (n := 131) dX7_joinBy_130 rfl c_121 ?_
      refine r_iret dX7_joinBy_131 rfl ?_
      first | (rw [if_neg c_121] at hq'; exact hq') | (rw [if_pos c_121] at hq'; exact hq')
    · refine x_ic0 (n := 125) dX7_joinBy_124 rfl ?_
      refine x_goto (n := 131) dX7_joinBy_125 (by decide) ?_
      refine r_iret dX7_joinBy_131 rfl ?_
      first | (rw [if_neg c_121] at hq'; exact hq') | (rw [if_pos c_121] at hq'; exact hq')
  · have hq' : Q (some (.int (if x < y then nI 1 else nI 0))) Z I := hq
    refine x_ild0 (n := 1) dX7_joinBy_0 rfl ?_
    refine x_tswI (n := 140) (off := 139) dX7_joinBy_1 (by decide) (by decide) (by decide +kernel) (by decide) ?_
    refine x_ild1 (n := 141) dX7_joinBy_140 rfl ?_
    refine x_ild2 (n := 142) dX7_joinBy_141 rfl ?_
    refine x_icmp_ge (n := 145) (tgt := 149) dX7_joinBy_142 rfl (by decide) (fun c_142 => ?_) (fun c_142 => ?_)
    · refine x_ic0 (n := 150) dX7_joinBy_149 rfl ?_
      refine r_iret dX7_joinBy_150 rfl ?_
      rw [zle] at c_142
      first | (rw [if_neg (by rw [zlt]; omega)] at hq'; exact hq') | (rw [if_pos (by rw [zlt]; omega)] at hq'; exact hq')
    · refine x_ic1 (n := 146) dX7_joinBy_145 rfl ?_
      refine x_goto (n := 150) dX7_joinBy_146 (by decide) ?_
      refine r_iret dX7_joinBy_150 rfl ?_
      rw [zle] at c_142
      first | (rw [if_neg (by rw [zlt]; omega)] at hq'; exact hq') | (rw [if_pos (by rw [zlt]; omega)] at hq'; exact hq')
  · have hq' : Q (some (.int (if y < x then nI 1 else nI 0))) Z I := hq
    refine x_ild0 (n := 1) dX7_joinBy_0 rfl ?_
    refine x_tswI (n := 162) (off := 161) dX7_joinBy_1 (by decide) (by decide) (by decide +kernel) (by decide) ?_
    refine x_ild1 (n := 163) dX7_joinBy_162 rfl ?_
    refine x_ild2 (n := 164) dX7_joinBy_163 rfl ?_
    refine x_icmp_le (n := 167) (tgt := 171) dX7_joinBy_164 rfl (by decide) (fun c_164 => ?_) (fun c_164 => ?_)
    · refine x_ic0 (n := 172) dX7_joinBy_171 rfl ?_
      refine r_iret dX7_joinBy_172 rfl ?_
      rw [zle] at c_164
      first | (rw [if_neg (by rw [zlt]; omega)] at hq'; exact hq') | (rw [if_pos (by rw [zlt]; omega)] at hq'; exact hq')
    · refine x_ic1 (n := 168) dX7_joinBy_167 rfl ?_
      refine x_goto (n := 172) dX7_joinBy_168 (by decide) ?_
      refine r_iret dX7_joinBy_172 rfl ?_
      rw [zle] at c_164
      first | (rw [if_neg (by rw [zlt]; omega)] at hq'; exact hq') | (rw [if_pos (by rw [zlt]; omega)] at hq'; exact hq')
  · have hq' : Q (some (.int (if x = y then nI 1 else nI 0))) Z I := hq
    refine x_ild0 (n := 1) dX7_joinBy_0 rfl ?_
    refine x_tswI (n := 151) (off := 150) dX7_joinBy_1 (by decide) (by decide) (by decide +kernel) (by decide) ?_
    refine x_ild1 (n := 152) dX7_joinBy_151 rfl ?_
    refine x_ild2 (n := 153) dX7_joinBy_152 rfl ?_
    refine x_icmp_ne (n := 156) (tgt := 160) dX7_joinBy_153 rfl (by decide) (fun c_153 => ?_) (fun c_153 => ?_)
    · refine x_ic0 (n := 161) dX7_joinBy_160 rfl ?_
      refine r_iret dX7_joinBy_161 rfl ?_
      first | (rw [if_neg c_153] at hq'; exact hq') | (rw [if_pos c_153] at hq'; exact hq')
    · refine x_ic1 (n := 157) dX7_joinBy_156 rfl ?_
      refine x_goto (n := 161) dX7_joinBy_157 (by decide) ?_
      refine r_iret dX7_joinBy_161 rfl ?_
      first | (rw [if_neg c_153] at hq'; exact hq') | (rw [if_pos c_153] at hq'; exact hq')
  · have hq' : Q (some (.int (if x ≠ 0 ∧ y ≠ 0 then nI 1 else nI 0))) Z I := hq
    refine x_ild0 (n := 1) dX7_joinBy_0 rfl ?_
    refine x_tswI (n := 173) (off := 172) dX7_joinBy_1 (by decide) (by decide) (by decide +kernel) (by decide) ?_
    refine x_ild1 (n := 174) dX7_joinBy_173 rfl ?_
    refine x_if_eq (n := 177) (tgt := 185) dX7_joinBy_174 rfl (by decide) (fun c_174 => ?_) (fun c_174 => ?_)
    · refine x_ic0 (n := 186) dX7_joinBy_185 rfl ?_
      refine r_iret dX7_joinBy_186 rfl ?_
      first | (have h1 : ¬ x = 0 := c_174; have h2 : ¬ y = 0 := c_178; rw [if_pos ⟨h1, h2⟩] at hq'; exact hq') | (have h0 : x = 0 := c_174; rw [if_neg (fun h => h.1 h0)] at hq'; exact hq') | (have h0 : y = 0 := c_178; rw [if_neg (fun h => h.2 h0)] at hq'; exact hq')
    · refine x_ild2 (n := 178) dX7_joinBy_177 rfl ?_
      refine x_if_eq (n := 181) (tgt := 185) dX7_joinBy_178 rfl (by decide) (fun c_178 => ?_) (fun c_178 => ?_)
      · refine x_ic0 (n := 186) dX7_joinBy_185 rfl ?_
        refine r_iret dX7_joinBy_186 rfl ?_
        first | (have h1 : ¬ x = 0 := c_174; have h2 : ¬ y = 0 := c_178; rw [if_pos ⟨h1, h2⟩] at hq'; exact hq') | (have h0 : x = 0 := c_174; rw [if_neg (fun h => h.1 h0)] at hq'; exact hq') | (have h0 : y = 0 := c_178; rw [if_neg (fun h => h.2 h0)] at hq'; exact hq')
      · refine x_ic1 (n := 182) dX7_joinBy_181 rfl ?_
        refine x_goto (n := 186) dX7_joinBy_182 (by decide) ?_
        refine r_iret dX7_joinBy_186 rfl ?_
        first | (have h1 : ¬ x = 0 := c_174; have h2 : ¬ y = 0 := c_178; rw [if_pos ⟨h1, h2⟩] at hq'; exact hq') | (have h0 : x = 0 := c_174; rw [if_neg (fun h => h.1 h0)] at hq'; exact hq') | (have h0 : y = 0 := c_178; rw [if_neg (fun h => h.2 h0)] at hq'; exact hq')
  · have hq' : Q (some (.int (if x ≠ 0 ∨ y ≠ 0 then nI 1 else nI 0))) Z I := hq
    refine x_ild0 (n := 1) dX7_joinBy_0 rfl ?_
    refine x_tswO (n := 187) dX7_joinBy_1 (by decide) (by decide) ?_
    refine x_ild1 (n := 188) dX7_joinBy_187 rfl ?_
    refine x_if_ne (n := 191) (tgt := 195) dX7_joinBy_188 rfl (by decide) (fun c_188 => ?_) (fun c_188 => ?_)
    · refine x_ic1 (n := 196) dX7_joinBy_195 rfl ?_
      refine x_goto (n := 200) dX7_joinBy_196 (by decide) ?_
      refine r_iret dX7_joinBy_200 rfl ?_
      first | (have h0 : ¬ x = 0 := c_188; rw [if_pos (Or.inl h0)] at hq'; exact hq') | (have h0 : ¬ y = 0 := c_192; rw [if_pos (Or.inr h0)] at hq'; exact hq') | (have h1 : x = 0 := c_188; have h2 : y = 0 := c_192; rw [if_neg (fun h => h.elim (fun h => h h1) (fun h => h h2))] at hq'; exact hq')
    · refine x_ild2 (n := 192) dX7_joinBy_191 rfl ?_
      refine x_if_eq (n := 195) (tgt := 199) dX7_joinBy_192 rfl (by decide) (fun c_192 => ?_) (fun c_192 => ?_)
      · refine x_ic0 (n := 200) dX7_joinBy_199 rfl ?_
        refine r_iret dX7_joinBy_200 rfl ?_
        first | (have h0 : ¬ x = 0 := c_188; rw [if_pos (Or.inl h0)] at hq'; exact hq') | (have h0 : ¬ y = 0 := c_192; rw [if_pos (Or.inr h0)] at hq'; exact hq') | (have h1 : x = 0 := c_188; have h2 : y = 0 := c_192; rw [if_neg (fun h => h.elim (fun h => h h1) (fun h => h h2))] at hq'; exact hq')
      · refine x_ic1 (n := 196) dX7_joinBy_195 rfl ?_
        refine x_goto (n := 200) dX7_joinBy_196 (by decide) ?_
        refine r_iret dX7_joinBy_200 rfl ?_
        first | (have h0 : ¬ x = 0 := c_188; rw [if_pos (Or.inl h0)] at hq'; exact hq') | (have h0 : ¬ y = 0 := c_192; rw [if_pos (Or.inr h0)] at hq'; exact hq') | (have h1 : x = 0 := c_188; have h2 : y = 0 := c_192; rw [if_neg (fun h => h.elim (fun h => h h1) (fun h => h h2))] at hq'; exact hq')
theorem nmF_I (key : Nat) (a b c v : Int32) : nmF key a b c v = if nmI key v = 0 then a else if nmI key v = 1 then b else c := by
  unfold nmF nmI
  by_cases h0 : key = 0
  · simp only [if_pos h0]
    by_cases h1 : v = nI 107
    · simp [h1]
    · by_cases h2 : v = nI 100
      · simp only [if_neg h1, if_pos h2]; rfl
      · simp only [if_neg h1, if_neg h2]; rfl
  · simp only [if_neg h0]
    by_cases h1 : key = 1
    · simp only [if_pos h1]
      by_cases h2 : v = nI 107
      · simp only [if_pos h2]; rfl
      · simp only [if_neg h2]; rfl
    · simp only [if_neg h1]
      by_cases h2 : key = 2
      · simp only [if_pos h2]; rfl
      · simp only [if_neg h2]
        by_cases h3 : v = nI 99
        · simp only [if_pos h3]; rfl
        · simp only [if_neg h3]; rfl
theorem nmI_lt (key : Nat) (v : Int32) : nmI key v < 3 := by
  unfold nmI
  split
  · split
    · omega
    · split <;> omega
  · split
    · split <;> omega
    · split
      · omega
      · split <;> omega
theorem nneg_lt {j : Nat} (h1 : 1 ≤ j) (h2 : j < 1000) : (-(nI j)).toInt = -(j : Int) := by
  rw [Int32.toInt_neg, nI_toInt (by omega)]
  exact Int.bmod_eq_of_le (by simp; omega) (by simp; omega)
theorem sign_rg {j : Nat} (h : signOK j) : 1 ≤ j ∧ j < 1000 ∧ j ≠ 33 := by unfold signOK at h; omega
theorem l_X7_valueFor (hM : ShM Z mk) {t p q M : Nat} {H : Nat → Nat} {key : Nat} {a b c : Int32} (hx : zk Z p 7 ∧ Z.2.2.2 p 3 = some q ∧ za Z q 13 M) (hq2 : q ≠ mk + 65) (hM2 : M ≤ 96) (hH0 : H M = 1) (hHs : ∀ k, k < M → stepH key (g (2520 + 200 * t + 4 + 2 * k)) (g (2520 + 200 * t + 4 + 2 * k + 1)) (H k) (H (k + 1)))
    (hc : ∀ k, k < M → I q k = cdF key (g (2520 + 200 * t + 4 + 2 * k)) (g (2520 + 200 * t + 4 + 2 * k + 1)) ∧ (g (2520 + 200 * t + 4 + 2 * k) = nI 0 → rg (g (2520 + 200 * t + 4 + 2 * k + 1)) 0 9999))
    (hq : ∀ I' : zI, (∀ a, a ≠ mk + 65 → I' a = I a) → Q (some (.int ((stF g t (nmF key a b c) M).headD 0))) Z I') : ∀ m k (I' : zI), (∀ a, a ≠ mk + 65 → I' a = I a) → k ≤ M → M - k < m → (stF g t (nmF key a b c) k).length = H k → pileOK (I' (mk + 65)) (stF g t (nmF key a b c) k) → H k ≤ k → zX l G mX7_valueFor 1 0 0 6 [some (.ref p), some (.int a), some (.int b), some (.int c), some (.ref (mk + 65)), some (.int (nI (H k))), some (.int (nI k)), none] [] Z I' Q := by
  intro m
  generalize hnm : nmF key a b c = nm at hq
  induction m with
  | zero => intro k _ _ _ h; exact absurd h (by omega)
  | succ m ih =>
    intro k I' hI hk hm hlen hpile hHk
    by_cases hkM : k = M
    · subst hkM
      rw [hH0]
      refine x_ild6 (n := 8) dX7_valueFor_6 rfl ?_
      refine x_ald0 (n := 9) dX7_valueFor_8 rfl ?_
      refine x_getR (n := 12) flX7_19 rfl dX7_valueFor_9 rfl hx.1 hx.2.1 ?_
      refine x_alenN (n := 13) dX7_valueFor_12 rfl hx.2.2 ⟨by decide, by decide⟩ ?_
      refine x_icmpN_ge (n := 16) (tgt := 173) dX7_valueFor_13 rfl (by decide) (by omega) (by omega) (fun c_13 => ?_) (fun c_13 => ?_)
      · refine x_ild5 (n := 175) dX7_valueFor_173 rfl ?_
        refine x_ic1 (n := 176) dX7_valueFor_175 rfl ?_
        refine x_icmpN_lt (n := 179) (tgt := 186) dX7_valueFor_176 rfl (by decide) (by omega) (by omega) (fun c_176 => ?_) (fun c_176 => ?_)
        · exact absurd c_176 (by omega)
        · refine x_ald4 (n := 181) dX7_valueFor_179 rfl ?_
          refine x_ic0 (n := 182) dX7_valueFor_181 rfl ?_
          refine x_ialdN (n := 183) dX7_valueFor_182 rfl (mA_stack hM) (Nat.le_of_ble_eq_true rfl) (by omega) ?_
          refine x_goto (n := 187) dX7_valueFor_183 (by decide) ?_
          refine r_iret dX7_valueFor_187 rfl ?_
          rw [hH0] at hlen
          match hst : stF g t nm k, hlen, hpile with
          | [x], _, hp =>
            have := hq I' hI
            rw [hst] at this
            rw [show I' (mk + 65) 0 = x from hp.1]; exact this
      · exact absurd c_13 (by omega)
    · have hs := hHs k (by omega)
      obtain ⟨hck, hrk⟩ := hc k (by omega)
      have hIq : I' q k = cdF key (g (2520 + 200 * t + 4 + 2 * k)) (g (2520 + 200 * t + 4 + 2 * k + 1)) := by rw [hI q hq2]; exact hck
      have es : stF g t nm (k + 1) = stepF nm (g (2520 + 200 * t + 4 + 2 * k)) (g (2520 + 200 * t + 4 + 2 * k + 1)) (stF g t nm k) := rfl
      have next : ∀ (I2 : zI) (b' : Nat → Int32) (hh : Nat), I2 = va_up I' (mk + 65) b' → H (k + 1) = hh → (stF g t nm (k + 1)).length = hh → pileOK b' (stF g t nm (k + 1)) → hh ≤ k + 1 → zX l G mX7_valueFor 1 0 0 167 [some (.ref p), some (.int a), some (.int b), some (.int c), some (.ref (mk + 65)), some (.int (nI hh)), some (.int (nI k)), none] [] Z I2 Q := by
        intro I2 b' hh e1 e2 e3 e4 e5
        subst e1; subst e2
        refine x_iincN6 (n := 170) (k := 1) dX7_valueFor_167 rfl (by decide) rfl ?_
        refine x_goto (n := 6) dX7_valueFor_170 (by decide) ?_
        exact ih (k + 1) _ (fun a ha => by rw [va_up_off ha]; exact hI a ha) (by omega) (by omega) e3 (by rw [va_up_same]; exact e4) e5
      rcases hs with ⟨hw, h2⟩ | ⟨hw, h2, j, hj, hv⟩ | ⟨hw, hv, h1, h2⟩ | ⟨hw, ⟨j, hj, hv⟩, h1, h2⟩
      · have hr := hrk hw
        have hv := rg_nI hr (by omega) (by omega)
        have hv2 := rg_le hr (by omega)
        have hcd : I' q k = nI (vN g (2520 + 200 * t + 4 + 2 * k + 1)) := by rw [hIq]; unfold cdF; rw [if_pos hw]; exact hv
        refine x_ild6 (n := 8) dX7_valueFor_6 rfl ?_
        refine x_ald0 (n := 9) dX7_valueFor_8 rfl ?_
        refine x_getR (n := 12) flX7_19 rfl dX7_valueFor_9 rfl hx.1 hx.2.1 ?_
        refine x_alenN (n := 13) dX7_valueFor_12 rfl hx.2.2 ⟨by decide, by decide⟩ ?_
        refine x_icmpN_ge (n := 16) (tgt := 173) dX7_valueFor_13 rfl (by decide) (by omega) (by omega) (fun c_13 => ?_) (fun c_13 => ?_)
        · exact absurd c_13 (by omega)
        · refine x_ild5 (n := 18) dX7_valueFor_16 rfl ?_
          refine x_ald4 (n := 20) dX7_valueFor_18 rfl ?_
          refine x_alenN (n := 21) dX7_valueFor_20 rfl (mA_stack hM) ⟨by decide, by decide⟩ ?_
          refine x_icmpN_ge (n := 24) (tgt := 173) dX7_valueFor_21 rfl (by decide) (by omega) (by omega) (fun c_21 => ?_) (fun c_21 => ?_)
          · exact absurd c_21 (by omega)
          · refine x_ald0 (n := 25) dX7_valueFor_24 rfl ?_
            refine x_getR (n := 28) flX7_19 rfl dX7_valueFor_25 rfl hx.1 hx.2.1 ?_
            refine x_ild6 (n := 30) dX7_valueFor_28 rfl ?_
            refine x_ialdN (n := 31) dX7_valueFor_30 rfl hx.2.2 (by omega) (by omega) ?_
            rw [hcd]
            refine x_ist7 (n := 33) dX7_valueFor_31 rfl (by decide) rfl ?_
            refine x_ild7 (n := 35) dX7_valueFor_33 rfl ?_
            refine x_sipush (n := 38) (v := nI 10000) dX7_valueFor_35 rfl (by decide) ?_
            refine x_icmpN_lt (n := 41) (tgt := 77) dX7_valueFor_38 rfl (by decide) (by omega) (by omega) (fun c_38 => ?_) (fun c_38 => ?_)
            · refine x_ild7 (n := 79) dX7_valueFor_77 rfl ?_
              refine x_if_lt (n := 82) (tgt := 95) dX7_valueFor_79 rfl (by decide) (fun c_79 => ?_) (fun c_79 => ?_)
              · exact absurd c_79 (by rw [zlt, nI_toInt (by omega), Int32.toInt_zero]; omega)
              · refine x_ald4 (n := 84) dX7_valueFor_82 rfl ?_
                refine x_ild5 (n := 86) dX7_valueFor_84 rfl ?_
                refine x_ild7 (n := 88) dX7_valueFor_86 rfl ?_
                refine x_iastN (n := 89) dX7_valueFor_88 rfl (mA_stack hM) (Nat.le_of_ble_eq_true rfl) (by omega) ?_
                refine x_iincN5 (n := 92) (k := 1) dX7_valueFor_89 rfl (by decide) rfl ?_
                refine x_goto (n := 167) dX7_valueFor_92 (by decide) ?_
                refine x_fg7 ?_
                refine next _ _ _ rfl h2 ?_ ?_ (by omega)
                · rw [es, hw, step_0, List.length_cons, hlen]
                · rw [es, hw, step_0]; exact ⟨(if_pos hlen).trans hv.symm, pileOK_up (by omega) hpile⟩
            · exact absurd c_38 (by omega)
      · have hni := nmI_lt key (nI j)
        have hcd : I' q k = nI (10000 + nmI key (nI j)) := by rw [hIq, hv]; unfold cdF; rw [hw, if_neg (by decide), if_pos rfl]
        have hnv := nmF_I key a b c (nI j)
        rw [hnm] at hnv
        have fin : ∀ x, nm (nI j) = x → zX l G mX7_valueFor 1 0 0 70 [some (.ref p), some (.int a), some (.int b), some (.int c), some (.ref (mk + 65)), some (.int (nI (H k))), some (.int (nI k)), some (.int (nI (10000 + nmI key (nI j))))] [.int x, .int (nI (H k)), .ref (mk + 65)] Z I' Q := by
          intro x hxx
          refine x_iastN (n := 71) dX7_valueFor_70 rfl (mA_stack hM) (Nat.le_of_ble_eq_true rfl) (by omega) ?_
          refine x_iincN5 (n := 74) (k := 1) dX7_valueFor_71 rfl (by decide) rfl ?_
          refine x_goto (n := 167) dX7_valueFor_74 (by decide) ?_
          refine x_fg7 ?_
          refine next _ _ _ rfl h2 ?_ ?_ (by omega)
          · rw [es, hw, hv, step_1, List.length_cons, hlen]
          · rw [es, hw, hv, step_1]; exact ⟨(if_pos hlen).trans hxx.symm, pileOK_up (by omega) hpile⟩
        refine x_ild6 (n := 8) dX7_valueFor_6 rfl ?_
        refine x_ald0 (n := 9) dX7_valueFor_8 rfl ?_
        refine x_getR (n := 12) flX7_19 rfl dX7_valueFor_9 rfl hx.1 hx.2.1 ?_
        refine x_alenN (n := 13) dX7_valueFor_12 rfl hx.2.2 ⟨by decide, by decide⟩ ?_
        refine x_icmpN_ge (n := 16) (tgt := 173) dX7_valueFor_13 rfl (by decide) (by omega) (by omega) (fun c_13 => ?_) (fun c_13 => ?_)
        · exact absurd c_13 (by omega)
        · refine x_ild5 (n := 18) dX7_valueFor_16 rfl ?_
          refine x_ald4 (n := 20) dX7_valueFor_18 rfl ?_
          refine x_alenN (n := 21) dX7_valueFor_20 rfl (mA_stack hM) ⟨by decide, by decide⟩ ?_
          refine x_icmpN_ge (n := 24) (tgt := 173) dX7_valueFor_21 rfl (by decide) (by omega) (by omega) (fun c_21 => ?_) (fun c_21 => ?_)
          · exact absurd c_21 (by omega)
          · refine x_ald0 (n := 25) dX7_valueFor_24 rfl ?_
            refine x_getR (n := 28) flX7_19 rfl dX7_valueFor_25 rfl hx.1 hx.2.1 ?_
            refine x_ild6 (n := 30) dX7_valueFor_28 rfl ?_
            refine x_ialdN (n := 31) dX7_valueFor_30 rfl hx.2.2 (by omega) (by omega) ?_
            rw [hcd]
            refine x_ist7 (n := 33) dX7_valueFor_31 rfl (by decide) rfl ?_
            refine x_ild7 (n := 35) dX7_valueFor_33 rfl ?_
            refine x_sipush (n := 38) (v := nI 10000) dX7_valueFor_35 rfl (by decide) ?_
            refine x_icmpN_lt (n := 41) (tgt := 77) dX7_valueFor_38 rfl (by decide) (by omega) (by omega) (fun c_38 => ?_) (fun c_38 => ?_)
            · exact absurd c_38 (by omega)
            · refine x_ald4 (n := 43) dX7_valueFor_41 rfl ?_
              refine x_ild5 (n := 45) dX7_valueFor_43 rfl ?_
              refine x_ild7 (n := 47) dX7_valueFor_45 rfl ?_
              refine x_sipush (n := 50) (v := nI 10000) dX7_valueFor_47 rfl (by decide) ?_
              refine x_icmpN_ne (n := 53) (tgt := 57) dX7_valueFor_50 rfl (by decide) (by omega) (by omega) (fun c_50 => ?_) (fun c_50 => ?_)
              · refine x_ild7 (n := 59) dX7_valueFor_57 rfl ?_
                refine x_sipush (n := 62) (v := nI 10001) dX7_valueFor_59 rfl (by decide) ?_
                refine x_icmpN_ne (n := 65) (tgt := 69) dX7_valueFor_62 rfl (by decide) (by omega) (by omega) (fun c_62 => ?_) (fun c_62 => ?_)
                · refine x_ild3 (n := 70) dX7_valueFor_69 rfl ?_
                  refine fin _ ?_
                  rw [hnv]
                  first | (rw [if_pos (by omega)]; done) | (rw [if_neg (by omega), if_pos (by omega)]; done) | (rw [if_neg (by omega), if_neg (by omega)]; done)
                · refine x_ild2 (n := 66) dX7_valueFor_65 rfl ?_
                  refine x_goto (n := 70) dX7_valueFor_66 (by decide) ?_
                  refine fin _ ?_
                  rw [hnv]
                  first | (rw [if_pos (by omega)]; done) | (rw [if_neg (by omega), if_pos (by omega)]; done) | (rw [if_neg (by omega), if_neg (by omega)]; done)
              · refine x_ild1 (n := 54) dX7_valueFor_53 rfl ?_
                refine x_goto (n := 70) dX7_valueFor_54 (by decide) ?_
                refine fin _ ?_
                rw [hnv]
                first | (rw [if_pos (by omega)]; done) | (rw [if_neg (by omega), if_pos (by omega)]; done) | (rw [if_neg (by omega), if_neg (by omega)]; done)
      · obtain ⟨x, S, hS⟩ : ∃ x S, stF g t nm k = x :: S := by
          cases h : stF g t nm k with
          | nil => rw [h] at hlen; simp at hlen; omega
          | cons x S => exact ⟨x, S, rfl⟩
        rw [hS] at hlen hpile
        have hl : S.length + 1 = H k := hlen
        have hcd : I' q k = -(nI 33) := by rw [hIq, hv]; unfold cdF; rw [hw, if_neg (by decide), if_neg (by decide)]
        rw [← hl]
        refine x_ild6 (n := 8) dX7_valueFor_6 rfl ?_
        refine x_ald0 (n := 9) dX7_valueFor_8 rfl ?_
        refine x_getR (n := 12) flX7_19 rfl dX7_valueFor_9 rfl hx.1 hx.2.1 ?_
        refine x_alenN (n := 13) dX7_valueFor_12 rfl hx.2.2 ⟨by decide, by decide⟩ ?_
        refine x_icmpN_ge (n := 16) (tgt := 173) dX7_valueFor_13 rfl (by decide) (by omega) (by omega) (fun c_13 => ?_) (fun c_13 => ?_)
        · exact absurd c_13 (by omega)
        · refine x_ild5 (n := 18) dX7_valueFor_16 rfl ?_
          refine x_ald4 (n := 20) dX7_valueFor_18 rfl ?_
          refine x_alenN (n := 21) dX7_valueFor_20 rfl (mA_stack hM) ⟨by decide, by decide⟩ ?_
          refine x_icmpN_ge (n := 24) (tgt := 173) dX7_valueFor_21 rfl (by decide) (by omega) (by omega) (fun c_21 => ?_) (fun c_21 => ?_)
          · exact absurd c_21 (by omega)
          · refine x_ald0 (n := 25) dX7_valueFor_24 rfl ?_
            refine x_getR (n := 28) flX7_19 rfl dX7_valueFor_25 rfl hx.1 hx.2.1 ?_
            refine x_ild6 (n := 30) dX7_valueFor_28 rfl ?_
            refine x_ialdN (n := 31) dX7_valueFor_30 rfl hx.2.2 (by omega) (by omega) ?_
            rw [hcd]
            refine x_ist7 (n := 33) dX7_valueFor_31 rfl (by decide) rfl ?_
            refine x_ild7 (n := 35) dX7_valueFor_33 rfl ?_
            refine x_sipush (n := 38) (v := nI 10000) dX7_valueFor_35 rfl (by decide) ?_
            refine x_icmp_lt (n := 41) (tgt := 77) dX7_valueFor_38 rfl (by decide) (fun c_38 => ?_) (fun c_38 => ?_)
            · refine x_ild7 (n := 79) dX7_valueFor_77 rfl ?_
              refine x_if_lt (n := 82) (tgt := 95) dX7_valueFor_79 rfl (by decide) (fun c_79 => ?_) (fun c_79 => ?_)
              · refine x_ild7 (n := 97) dX7_valueFor_95 rfl ?_
                refine x_bipush (n := 99) (v := -33) dX7_valueFor_97 rfl (by decide) ?_
                refine x_icmp_ne (n := 102) (tgt := 133) dX7_valueFor_99 rfl (by decide) (fun c_99 => ?_) (fun c_99 => ?_)
                · exact absurd (by decide) c_99
                · refine x_ild5 (n := 104) dX7_valueFor_102 rfl ?_
                  refine x_ic1 (n := 105) dX7_valueFor_104 rfl ?_
                  refine x_icmpN_lt (n := 108) (tgt := 133) dX7_valueFor_105 rfl (by decide) (by omega) (by omega) (fun c_105 => ?_) (fun c_105 => ?_)
                  · exact absurd c_105 (by omega)
                  · refine x_ald4 (n := 110) dX7_valueFor_108 rfl ?_
                    refine x_ild5 (n := 112) dX7_valueFor_110 rfl ?_
                    refine x_ic1 (n := 113) dX7_valueFor_112 rfl ?_
                    refine x_isubN (n := 114) dX7_valueFor_113 rfl (by omega) ?_
                    rw [Nat.add_sub_cancel]
                    refine x_ald4 (n := 116) dX7_valueFor_114 rfl ?_
                    refine x_ild5 (n := 118) dX7_valueFor_116 rfl ?_
                    refine x_ic1 (n := 119) dX7_valueFor_118 rfl ?_
                    refine x_isubN (n := 120) dX7_valueFor_119 rfl (by omega) ?_
                    rw [Nat.add_sub_cancel]
                    refine x_ialdN (n := 121) dX7_valueFor_120 rfl (mA_stack hM) (Nat.le_of_ble_eq_true rfl) (by omega) ?_
                    rw [hpile.1]
                    refine x_if_ne (n := 124) (tgt := 128) dX7_valueFor_121 rfl (by decide) (fun c_121 => ?_) (fun c_121 => ?_)
                    · refine x_ic0 (n := 129) dX7_valueFor_128 rfl ?_
                      refine x_iastN (n := 130) dX7_valueFor_129 rfl (mA_stack hM) (Nat.le_of_ble_eq_true rfl) (by omega) ?_
                      refine x_goto (n := 167) dX7_valueFor_130 (by decide) ?_
                      refine x_fg7 ?_
                      refine next _ _ _ rfl (by omega) ?_ ?_ (by omega)
                      · rw [es, hw, hv, hS, step_n, List.length_cons]
                      · rw [es, hw, hv, hS, step_n]; first | (rw [if_pos c_121]; exact ⟨if_pos rfl, pileOK_up (by omega) hpile.2⟩) | (rw [if_neg c_121]; exact ⟨if_pos rfl, pileOK_up (by omega) hpile.2⟩)
                    · refine x_ic1 (n := 125) dX7_valueFor_124 rfl ?_
                      refine x_goto (n := 129) dX7_valueFor_125 (by decide) ?_
                      refine x_iastN (n := 130) dX7_valueFor_129 rfl (mA_stack hM) (Nat.le_of_ble_eq_true rfl) (by omega) ?_
                      refine x_goto (n := 167) dX7_valueFor_130 (by decide) ?_
                      refine x_fg7 ?_
                      refine next _ _ _ rfl (by omega) ?_ ?_ (by omega)
                      · rw [es, hw, hv, hS, step_n, List.length_cons]
                      · rw [es, hw, hv, hS, step_n]; first | (rw [if_pos c_121]; exact ⟨if_pos rfl, pileOK_up (by omega) hpile.2⟩) | (rw [if_neg c_121]; exact ⟨if_pos rfl, pileOK_up (by omega) hpile.2⟩)
              · exact absurd (by decide) c_79
            · exact absurd (by decide) c_38
      · obtain ⟨x, y, S, hS⟩ : ∃ x y S, stF g t nm k = x :: y :: S := by
          match h : stF g t nm k, hlen with
          | [], hl => simp at hl; omega
          | [x], hl => simp at hl; omega
          | x :: y :: S, _ => exact ⟨x, y, S, rfl⟩
        rw [hS] at hlen hpile
        have hl : S.length + 2 = H k := hlen
        obtain ⟨j1, j2, j3⟩ := sign_rg hj
        have hnj := nneg_lt j1 j2
        have hcd : I' q k = -(nI j) := by rw [hIq, hv]; unfold cdF; rw [hw, if_neg (by decide), if_neg (by decide)]
        have e33 : ((-33 : Int32)).toInt = -33 := by decide
        have e10 : (nI 10000).toInt = 10000 := by decide
        rw [← hl]
        refine x_ild6 (n := 8) dX7_valueFor_6 rfl ?_
        refine x_ald0 (n := 9) dX7_valueFor_8 rfl ?_
        refine x_getR (n := 12) flX7_19 rfl dX7_valueFor_9 rfl hx.1 hx.2.1 ?_
        refine x_alenN (n := 13) dX7_valueFor_12 rfl hx.2.2 ⟨by decide, by decide⟩ ?_
        refine x_icmpN_ge (n := 16) (tgt := 173) dX7_valueFor_13 rfl (by decide) (by omega) (by omega) (fun c_13 => ?_) (fun c_13 => ?_)
        · exact absurd c_13 (by omega)
        · refine x_ild5 (n := 18) dX7_valueFor_16 rfl ?_
          refine x_ald4 (n := 20) dX7_valueFor_18 rfl ?_
          refine x_alenN (n := 21) dX7_valueFor_20 rfl (mA_stack hM) ⟨by decide, by decide⟩ ?_
          refine x_icmpN_ge (n := 24) (tgt := 173) dX7_valueFor_21 rfl (by decide) (by omega) (by omega) (fun c_21 => ?_) (fun c_21 => ?_)
          · exact absurd c_21 (by omega)
          · refine x_ald0 (n := 25) dX7_valueFor_24 rfl ?_
            refine x_getR (n := 28) flX7_19 rfl dX7_valueFor_25 rfl hx.1 hx.2.1 ?_
            refine x_ild6 (n := 30) dX7_valueFor_28 rfl ?_
            refine x_ialdN (n := 31) dX7_valueFor_30 rfl hx.2.2 (by omega) (by omega) ?_
            rw [hcd]
            refine x_ist7 (n := 33) dX7_valueFor_31 rfl (by decide) rfl ?_
            refine x_ild7 (n := 35) dX7_valueFor_33 rfl ?_
            refine x_sipush (n := 38) (v := nI 10000) dX7_valueFor_35 rfl (by decide) ?_
            refine x_icmp_lt (n := 41) (tgt := 77) dX7_valueFor_38 rfl (by decide) (fun c_38 => ?_) (fun c_38 => ?_)
            · refine x_ild7 (n := 79) dX7_valueFor_77 rfl ?_
              refine x_if_lt (n := 82) (tgt := 95) dX7_valueFor_79 rfl (by decide) (fun c_79 => ?_) (fun c_79 => ?_)
              · refine x_ild7 (n := 97) dX7_valueFor_95 rfl ?_
                refine x_bipush (n := 99) (v := -33) dX7_valueFor_97 rfl (by decide) ?_
                refine x_icmp_ne (n := 102) (tgt := 133) dX7_valueFor_99 rfl (by decide) (fun c_99 => ?_) (fun c_99 => ?_)
                · refine x_ild5 (n := 135) dX7_valueFor_133 rfl ?_
                  refine x_ic2 (n := 136) dX7_valueFor_135 rfl ?_
                  refine x_icmpN_lt (n := 139) (tgt := 167) dX7_valueFor_136 rfl (by decide) (by omega) (by omega) (fun c_136 => ?_) (fun c_136 => ?_)
                  · exact absurd c_136 (by omega)
                  · refine x_iinc5 (n := 142) (v := nI (S.length + 1)) dX7_valueFor_139 rfl (by decide) (zdec (by omega)) rfl ?_
                    refine x_ald4 (n := 144) dX7_valueFor_142 rfl ?_
                    refine x_ild5 (n := 146) dX7_valueFor_144 rfl ?_
                    refine x_ic1 (n := 147) dX7_valueFor_146 rfl ?_
                    refine x_isubN (n := 148) dX7_valueFor_147 rfl (by omega) ?_
                    rw [Nat.add_sub_cancel]
                    refine x_ild7 (n := 150) dX7_valueFor_148 rfl ?_
                    refine x_ineg (n := 151) dX7_valueFor_150 rfl ?_
                    rw [Int32.neg_neg]
                    refine x_ald4 (n := 153) dX7_valueFor_151 rfl ?_
                    refine x_ild5 (n := 155) dX7_valueFor_153 rfl ?_
                    refine x_ic1 (n := 156) dX7_valueFor_155 rfl ?_
                    refine x_isubN (n := 157) dX7_valueFor_156 rfl (by omega) ?_
                    rw [Nat.add_sub_cancel]
                    refine x_ialdN (n := 158) dX7_valueFor_157 rfl (mA_stack hM) (Nat.le_of_ble_eq_true rfl) (by omega) ?_
                    refine x_ald4 (n := 160) dX7_valueFor_158 rfl ?_
                    refine x_ild5 (n := 162) dX7_valueFor_160 rfl ?_
                    refine x_ialdN (n := 163) dX7_valueFor_162 rfl (mA_stack hM) (Nat.le_of_ble_eq_true rfl) (by omega) ?_
                    refine x_cS3 (n := 166) (d' := 0) zcX7_joinBy mlX7_23 dX7_valueFor_163 rfl (Nat.le_of_ble_eq_true rfl) (Nat.le_of_ble_eq_true rfl) ?_
                    refine c_X7_joinBy hj ?_
                    rw [hpile.2.1, show I' (mk + 65) (S.length + 1) = x from hpile.1]
                    refine x_some ?_
                    refine x_iastN (n := 167) dX7_valueFor_166 rfl (mA_stack hM) (Nat.le_of_ble_eq_true rfl) (by omega) ?_
                    refine x_fg7 ?_
                    refine next _ _ _ rfl (by omega) ?_ ?_ (by omega)
                    · rw [es, hw, hv, hS, step_j _ hj, List.length_cons]
                    · rw [es, hw, hv, hS, step_j _ hj]; exact ⟨if_pos rfl, pileOK_up (by omega) hpile.2.2⟩
                · rw [zeq, hnj, e33] at c_99; exact absurd c_99 (by omega)
              · exact absurd (by rw [zlt, hnj, Int32.toInt_zero]; omega) c_79
            · exact absurd (by rw [zlt, hnj, e10]; omega) c_38
end
