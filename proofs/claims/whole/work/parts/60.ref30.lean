def lexT (f : Nat → Int32) (t p : Nat) (tok : Int32) : Bool := decide (0 < p ∧ (tok = nI 1 ∨ tok = nI 2)) && decide (p = skB f (t - p) p)
/-- the next word, number or sign from p on: how the fields stand -/
def lexOK (f : Nat → Int32) (t b : Nat) (tg : Bool) (R R' : Nat → Int32) : Prop :=
  R' 16 = nI b ∧ (∀ i, ¬ (i = 16 ∨ i = 17 ∨ i = 18 ∨ i = 19 ∨ i = 20) → R' i = R i) ∧
  (b = t → R' 17 = nI b ∧ R' 18 = nI 0) ∧
  (b < t → isLe f t b = true → R' 17 = nI (skL f t (t - b) b) ∧ R' 18 = (if tg = true then nI 4 else nI 1) ∧ R' 20 = (if skL f t (t - b) b - b = 1 then f b else nI 0)) ∧
  (b < t → isLe f t b = false → isDi f t b = true → R' 17 = nI (skD f t (t - b) b) ∧ R' 18 = (if tg = true ∨ 4 < skD f t (t - b) b - b then nI 4 else nI 2) ∧ R' 19 = dgF f b (skD f t (t - b) b - b)) ∧
  (b < t → isLe f t b = false → isDi f t b = false → R' 17 = nI (b + 1) ∧ R' 18 = nI 3 ∧ R' 20 = f b)
section
variable {l : Launch} {G : zG} {Z : zS} {I : zI} {g : Nat → Int32} {Q : Option Value → zS → zI → Prop}
theorem m2_X12_next (hZ : ShR Z) {t b : Nat} {tg : Bool} {y : Int32} (ht2 : t ≤ 96) (hbt : b < t) (ht : I qR 15 = nI t) (h16 : I qR 16 = nI b) (hL : isLe (I q_tape) t b = true) {J : zI} (hJ : jOff I J (fun i => i = 17)) (h17 : J qR 17 = nI (skL (I q_tape) t (t - b) b))
    (hq : ∀ J : zI, (∀ q, q ≠ qR → J q = I q) → lexOK (I q_tape) t b tg (I qR) (J qR) → Q none Z (va_up J q_s g)) :
    zX l G mX12_next 2 0 0 152 [some (.ref qR), some (.int (zb tg)), some (.int y)] [] Z (va_up J q_s g) Q := by
  have hs := skL_le (I q_tape) t (t - b) b
  have e16 : J qR 16 = nI b := (hJ.2 16 (by omega)).trans h16
  have et : J q_tape = I q_tape := hJ.1 _ (by decide)
  generalize hE : skL (I q_tape) t (t - b) b = E at h17 hs
  have fin : ∀ u v : Int32, u = (if tg = true then nI 4 else nI 1) → v = (if E - b = 1 then I q_tape b else nI 0) → Q none Z (va_up (va_up (va_up J qR (upd (J qR) 18 u)) qR (upd (va_up J qR (upd (J qR) 18 u) qR) 20 v)) q_s g) := by
    intro u v hu hv
    refine hq _ (fun q h => by rw [va_up_off h, va_up_off h]; exact hJ.1 q h) ?_
    rw [va_up_same, va_up_same]
    refine ⟨?_, fun i hi => ?_, fun h => absurd h (by omega), fun _ _ => ⟨?_, ?_, ?_⟩, fun _ h => ?_, fun _ h => ?_⟩
    · rw [upd_off (by omega), upd_off (by omega)]; exact e16
    · rw [upd_off (by omega), upd_off (by omega)]; exact hJ.2 i (by omega)
    · rw [upd_off (by omega), upd_off (by omega), hE]; exact h17
    · rw [upd_off (by omega), upd_same]; exact hu
    · rw [upd_same, hE]; exact hv
    · rw [hL] at h; cases h
    · rw [hL] at h; cases h
  refine x_ald0 (n := 153) dX12_next_152 rfl ?_
  refine x_ild1 (n := 154) dX12_next_153 rfl ?_
  refine x_zif_eq (n := 157) (tgt := 161) dX12_next_154 rfl (by decide) (fun c_154 => ?_) (fun c_154 => ?_)
  · refine x_ic1 (n := 162) dX12_next_161 rfl ?_
    refine x_rput (n := 165) flX12_229 rfl rfl rfl rfl dX12_next_162 rfl hZ ?_
    refine x_ald0 (n := 166) dX12_next_165 rfl ?_
    refine x_ald0 (n := 167) dX12_next_166 rfl ?_
    refine x_rget (n := 170) flX12_226 rfl dX12_next_167 rfl hZ ?_
    rw [va_up_same, upd_off (by omega), h17]
    refine x_ald0 (n := 171) dX12_next_170 rfl ?_
    refine x_rget (n := 174) flX12_232 rfl dX12_next_171 rfl hZ ?_
    rw [va_up_same, upd_off (by omega), e16]
    refine x_isubN (n := 175) dX12_next_174 rfl (by omega) ?_
    refine x_ic1 (n := 176) dX12_next_175 rfl ?_
    refine x_icmpN_ne (n := 179) (tgt := 191) dX12_next_176 rfl (by decide) (by omega) (by omega) (fun c_176 => ?_) (fun c_176 => ?_)
    · refine x_ic0 (n := 192) dX12_next_191 rfl ?_
      refine x_rput (n := 195) flX12_238 rfl rfl rfl rfl dX12_next_192 rfl hZ ?_
      refine x_goto (n := 339) dX12_next_195 (by decide) ?_
      refine r_vret dX12_next_339 rfl ?_
      refine fin _ _ ?_ ?_
      · first | (rw [if_neg (by rw [c_154]; decide)]) | (rw [if_pos c_154])
      · first | (rw [if_pos (by omega)]) | (rw [if_neg (by omega)])
    · refine x_ald0 (n := 180) dX12_next_179 rfl ?_
      refine x_getR (n := 183) flX12_49 rfl dX12_next_180 rfl (rK hZ) (rP_tape hZ) ?_
      refine x_ald0 (n := 184) dX12_next_183 rfl ?_
      refine x_rget (n := 187) flX12_232 rfl dX12_next_184 rfl hZ ?_
      rw [va_up_same, upd_off (by omega), e16]
      refine x_old (n := 188) dX12_next_187 rfl (rA_tape hZ) (by decide) (Nat.le_of_ble_eq_true rfl) (by omega) ?_
      rw [va_up_off (show q_tape ≠ qR by decide), et]
      refine x_goto (n := 192) dX12_next_188 (by decide) ?_
      refine x_rput (n := 195) flX12_238 rfl rfl rfl rfl dX12_next_192 rfl hZ ?_
      refine x_goto (n := 339) dX12_next_195 (by decide) ?_
      refine r_vret dX12_next_339 rfl ?_
      refine fin _ _ ?_ ?_
      · first | (rw [if_neg (by rw [c_154]; decide)]) | (rw [if_pos c_154])
      · first | (rw [if_pos (by omega)]) | (rw [if_neg (by omega)])
  · refine x_ic4 (n := 158) dX12_next_157 rfl ?_
    refine x_goto (n := 162) dX12_next_158 (by decide) ?_
    refine x_rput (n := 165) flX12_229 rfl rfl rfl rfl dX12_next_162 rfl hZ ?_
    refine x_ald0 (n := 166) dX12_next_165 rfl ?_
    refine x_ald0 (n := 167) dX12_next_166 rfl ?_
    refine x_rget (n := 170) flX12_226 rfl dX12_next_167 rfl hZ ?_
    rw [va_up_same, upd_off (by omega), h17]
    refine x_ald0 (n := 171) dX12_next_170 rfl ?_
    refine x_rget (n := 174) flX12_232 rfl dX12_next_171 rfl hZ ?_
    rw [va_up_same, upd_off (by omega), e16]
    refine x_isubN (n := 175) dX12_next_174 rfl (by omega) ?_
    refine x_ic1 (n := 176) dX12_next_175 rfl ?_
    refine x_icmpN_ne (n := 179) (tgt := 191) dX12_next_176 rfl (by decide) (by omega) (by omega) (fun c_176 => ?_) (fun c_176 => ?_)
    · refine x_ic0 (n := 192) dX12_next_191 rfl ?_
      refine x_rput (n := 195) flX12_238 rfl rfl rfl rfl dX12_next_192 rfl hZ ?_
      refine x_goto (n := 339) dX12_next_195 (by decide) ?_
      refine r_vret dX12_next_339 rfl ?_
      refine fin _ _ ?_ ?_
      · first | (rw [if_neg (by rw [c_154]; decide)]) | (rw [if_pos c_154])
      · first | (rw [if_pos (by omega)]) | (rw [if_neg (by omega)])
    · refine x_ald0 (n := 180) dX12_next_179 rfl ?_
      refine x_getR (n := 183) flX12_49 rfl dX12_next_180 rfl (rK hZ) (rP_tape hZ) ?_
      refine x_ald0 (n := 184) dX12_next_183 rfl ?_
      refine x_rget (n := 187) flX12_232 rfl dX12_next_184 rfl hZ ?_
      rw [va_up_same, upd_off (by omega), e16]
      refine x_old (n := 188) dX12_next_187 rfl (rA_tape hZ) (by decide) (Nat.le_of_ble_eq_true rfl) (by omega) ?_
      rw [va_up_off (show q_tape ≠ qR by decide), et]
      refine x_goto (n := 192) dX12_next_188 (by decide) ?_
      refine x_rput (n := 195) flX12_238 rfl rfl rfl rfl dX12_next_192 rfl hZ ?_
      refine x_goto (n := 339) dX12_next_195 (by decide) ?_
      refine r_vret dX12_next_339 rfl ?_
      refine fin _ _ ?_ ?_
      · first | (rw [if_neg (by rw [c_154]; decide)]) | (rw [if_pos c_154])
      · first | (rw [if_pos (by omega)]) | (rw [if_neg (by omega)])
theorem m3_X12_next (hZ : ShR Z) {t b : Nat} {tg : Bool} {y : Int32} (ht2 : t ≤ 96) (hbt : b < t) (ht : I qR 15 = nI t) (h16 : I qR 16 = nI b) (h17 : I qR 17 = nI b) (hL : isLe (I q_tape) t b = false) (hD : isDi (I q_tape) t b = true)
    (hq : ∀ J : zI, (∀ q, q ≠ qR → J q = I q) → lexOK (I q_tape) t b tg (I qR) (J qR) → Q none Z (va_up J q_s g)) :
    zX l G mX12_next 2 0 0 214 [some (.ref qR), some (.int (zb tg)), some (.int y)] [] Z (va_up (va_up I qR (upd (I qR) 19 (nI 0))) q_s g) Q := by
  have hs := skD_le (I q_tape) t (t - b) b
  refine l3_X12_next hZ ht2 h16 (t - b) 0 _ ⟨fun q h => va_up_off h, fun i hi => by rw [va_up_same]; exact upd_off (by omega)⟩ ht (by rw [va_up_same, upd_off (by omega)]; exact h17) (by rw [va_up_same, upd_same]; rfl) (by omega) (fun J hJ h17' h19' => ?_)
  have e16 : J qR 16 = nI b := (hJ.2 16 (by omega)).trans h16
  rw [Nat.add_zero] at h17' h19'
  generalize hE : skD (I q_tape) t (t - b) b = E at h17' h19' hs
  have fin : ∀ u : Int32, u = (if tg = true ∨ 4 < E - b then nI 4 else nI 2) → Q none Z (va_up (va_up J qR (upd (J qR) 18 u)) q_s g) := by
    intro u hu
    refine hq _ (fun q h => by rw [va_up_off h]; exact hJ.1 q h) ?_
    rw [va_up_same]
    refine ⟨?_, fun i hi => ?_, fun h => absurd h (by omega), fun _ h => ?_, fun _ _ _ => ⟨?_, ?_, ?_⟩, fun _ _ h => ?_⟩
    · rw [upd_off (by omega)]; exact e16
    · rw [upd_off (by omega)]; exact hJ.2 i (by omega)
    · rw [hL] at h; cases h
    · rw [upd_off (by omega), hE]; exact h17'
    · rw [upd_same, hE]; exact hu
    · rw [upd_off (by omega), hE]; exact h19'
    · rw [hD] at h; cases h
  refine x_ald0 (n := 283) dX12_next_282 rfl ?_
  refine x_ild1 (n := 284) dX12_next_283 rfl ?_
  refine x_zif_ne (n := 287) (tgt := 300) dX12_next_284 rfl (by decide) (fun c_284 => ?_) (fun c_284 => ?_)
  · refine x_ic4 (n := 301) dX12_next_300 rfl ?_
    refine x_goto (n := 305) dX12_next_301 (by decide) ?_
    refine x_rput (n := 308) flX12_229 rfl rfl rfl rfl dX12_next_305 rfl hZ ?_
    refine x_goto (n := 339) dX12_next_308 (by decide) ?_
    refine r_vret dX12_next_339 rfl ?_
    refine fin _ ?_
    first | (rw [if_pos (Or.inl c_284)]) | (rw [if_neg (fun h => by rcases h with h | h; (rw [c_284] at h; cases h); omega)]) | (rw [if_pos (Or.inr (by omega))])
  · refine x_ald0 (n := 288) dX12_next_287 rfl ?_
    refine x_rget (n := 291) flX12_226 rfl dX12_next_288 rfl hZ ?_
    rw [h17']
    refine x_ald0 (n := 292) dX12_next_291 rfl ?_
    refine x_rget (n := 295) flX12_232 rfl dX12_next_292 rfl hZ ?_
    rw [e16]
    refine x_isubN (n := 296) dX12_next_295 rfl (by omega) ?_
    refine x_ic4 (n := 297) dX12_next_296 rfl ?_
    refine x_icmpN_le (n := 300) (tgt := 304) dX12_next_297 rfl (by decide) (by omega) (by omega) (fun c_297 => ?_) (fun c_297 => ?_)
    · refine x_ic2 (n := 305) dX12_next_304 rfl ?_
      refine x_rput (n := 308) flX12_229 rfl rfl rfl rfl dX12_next_305 rfl hZ ?_
      refine x_goto (n := 339) dX12_next_308 (by decide) ?_
      refine r_vret dX12_next_339 rfl ?_
      refine fin _ ?_
      first | (rw [if_pos (Or.inl c_284)]) | (rw [if_neg (fun h => by rcases h with h | h; (rw [c_284] at h; cases h); omega)]) | (rw [if_pos (Or.inr (by omega))])
    · refine x_ic4 (n := 301) dX12_next_300 rfl ?_
      refine x_goto (n := 305) dX12_next_301 (by decide) ?_
      refine x_rput (n := 308) flX12_229 rfl rfl rfl rfl dX12_next_305 rfl hZ ?_
      refine x_goto (n := 339) dX12_next_308 (by decide) ?_
      refine r_vret dX12_next_339 rfl ?_
      refine fin _ ?_
      first | (rw [if_pos (Or.inl c_284)]) | (rw [if_neg (fun h => by rcases h with h | h; (rw [c_284] at h; cases h); omega)]) | (rw [if_pos (Or.inr (by omega))])
theorem m1_X12_next (hZ : ShR Z) {t b : Nat} {tg : Bool} {y : Int32} (ht2 : t ≤ 96) (hbt : b ≤ t) (ht : I qR 15 = nI t) (h17 : I qR 17 = nI b) (h16 : I qR 16 = nI b)
    (hq : ∀ J : zI, (∀ q, q ≠ qR → J q = I q) → lexOK (I q_tape) t b tg (I qR) (J qR) → Q none Z (va_up J q_s g)) :
    zX l G mX12_next 2 0 0 98 [some (.ref qR), some (.int (zb tg)), some (.int y)] [] Z (va_up I q_s g) Q := by
  by_cases hb : b = t
  · skip
    refine x_ald0 (n := 99) dX12_next_98 rfl ?_
    refine x_rget (n := 102) flX12_232 rfl dX12_next_99 rfl hZ ?_
    rw [h16]
    refine x_ald0 (n := 103) dX12_next_102 rfl ?_
    refine x_rget (n := 106) flX12_214 rfl dX12_next_103 rfl hZ ?_
    rw [ht]
    refine x_icmpN_ne (n := 109) (tgt := 117) dX12_next_106 rfl (by decide) (by omega) (by omega) (fun c_106 => ?_) (fun c_106 => ?_)
    · exact absurd hb c_106
    · refine x_ald0 (n := 110) dX12_next_109 rfl ?_
      refine x_ic0 (n := 111) dX12_next_110 rfl ?_
      refine x_rput (n := 114) flX12_229 rfl rfl rfl rfl dX12_next_111 rfl hZ ?_
      refine x_goto (n := 339) dX12_next_114 (by decide) ?_
      refine r_vret dX12_next_339 rfl ?_
      refine hq _ (fun q h => va_up_off h) ?_
      rw [va_up_same]
      refine ⟨(upd_off (by omega)).trans h16, fun i hi => upd_off (by omega), fun _ => ⟨(upd_off (by omega)).trans h17, upd_same⟩, fun h => absurd hb (by omega), fun h => absurd hb (by omega), fun h => absurd hb (by omega)⟩
  · have hb2 : b < t := by omega
    by_cases hL : isLe (I q_tape) t b = true
    · skip
      refine x_ald0 (n := 99) dX12_next_98 rfl ?_
      refine x_rget (n := 102) flX12_232 rfl dX12_next_99 rfl hZ ?_
      rw [h16]
      refine x_ald0 (n := 103) dX12_next_102 rfl ?_
      refine x_rget (n := 106) flX12_214 rfl dX12_next_103 rfl hZ ?_
      rw [ht]
      refine x_icmpN_ne (n := 109) (tgt := 117) dX12_next_106 rfl (by decide) (by omega) (by omega) (fun c_106 => ?_) (fun c_106 => ?_)
      · refine x_ald0 (n := 118) dX12_next_117 rfl ?_
        refine x_ald0 (n := 119) dX12_next_118 rfl ?_
        refine x_rget (n := 122) flX12_232 rfl dX12_next_119 rfl hZ ?_
        rw [h16]
        refine x_cV1 (n := 125) (d' := 1) zcX12_isLetter mlX12_235 dX12_next_122 rfl (rK hZ) (Nat.le_of_ble_eq_true rfl) (Nat.le_of_ble_eq_true rfl) ?_
        refine c_X12_isLetter hZ ht ht2 (by omega) ?_
        refine x_some ?_
        refine x_zif_eq (n := 128) (tgt := 198) dX12_next_125 rfl (by decide) (fun c_125 => ?_) (fun c_125 => ?_)
        · rw [hL] at c_125; cases c_125
        · refine l2_X12_next hZ ht2 (t - b) b I ⟨fun _ _ => rfl, fun _ _ => rfl⟩ ht h17 (by omega) (fun J hJ h17' => ?_)
          exact m2_X12_next hZ ht2 hb2 ht h16 hL hJ h17' hq
      · exact absurd c_106 hb
    · have hL' : isLe (I q_tape) t b = false := by cases h : isLe (I q_tape) t b; rfl; exact absurd h hL
      by_cases hD : isDi (I q_tape) t b = true
      · skip
        refine x_ald0 (n := 99) dX12_next_98 rfl ?_
        refine x_rget (n := 102) flX12_232 rfl dX12_next_99 rfl hZ ?_
        rw [h16]
        refine x_ald0 (n := 103) dX12_next_102 rfl ?_
        refine x_rget (n := 106) flX12_214 rfl dX12_next_103 rfl hZ ?_
        rw [ht]
        refine x_icmpN_ne (n := 109) (tgt := 117) dX12_next_106 rfl (by decide) (by omega) (by omega) (fun c_106 => ?_) (fun c_106 => ?_)
        · refine x_ald0 (n := 118) dX12_next_117 rfl ?_
          refine x_ald0 (n := 119) dX12_next_118 rfl ?_
          refine x_rget (n := 122) flX12_232 rfl dX12_next_119 rfl hZ ?_
          rw [h16]
          refine x_cV1 (n := 125) (d' := 1) zcX12_isLetter mlX12_235 dX12_next_122 rfl (rK hZ) (Nat.le_of_ble_eq_true rfl) (Nat.le_of_ble_eq_true rfl) ?_
          refine c_X12_isLetter hZ ht ht2 (by omega) ?_
          refine x_some ?_
          refine x_zif_eq (n := 128) (tgt := 198) dX12_next_125 rfl (by decide) (fun c_125 => ?_) (fun c_125 => ?_)
          · refine x_ald0 (n := 199) dX12_next_198 rfl ?_
            refine x_ald0 (n := 200) dX12_next_199 rfl ?_
            refine x_rget (n := 203) flX12_232 rfl dX12_next_200 rfl hZ ?_
            rw [h16]
            refine x_cV1 (n := 206) (d' := 1) zcX12_isDigit mlX12_241 dX12_next_203 rfl (rK hZ) (Nat.le_of_ble_eq_true rfl) (Nat.le_of_ble_eq_true rfl) ?_
            refine c_X12_isDigit hZ ht ht2 (by omega) ?_
            refine x_some ?_
            refine x_zif_eq (n := 209) (tgt := 311) dX12_next_206 rfl (by decide) (fun c_206 => ?_) (fun c_206 => ?_)
            · rw [hD] at c_206; cases c_206
            · refine x_ald0 (n := 210) dX12_next_209 rfl ?_
              refine x_ic0 (n := 211) dX12_next_210 rfl ?_
              refine x_rput (n := 214) flX12_244 rfl rfl rfl rfl dX12_next_211 rfl hZ ?_
              exact m3_X12_next hZ ht2 hb2 ht h16 h17 hL' hD hq
          · rw [hL'] at c_125; cases c_125
        · exact absurd c_106 hb
      · have hD' : isDi (I q_tape) t b = false := by cases h : isDi (I q_tape) t b; rfl; exact absurd h hD
        refine x_ald0 (n := 99) dX12_next_98 rfl ?_
        refine x_rget (n := 102) flX12_232 rfl dX12_next_99 rfl hZ ?_
        rw [h16]
        refine x_ald0 (n := 103) dX12_next_102 rfl ?_
        refine x_rget (n := 106) flX12_214 rfl dX12_next_103 rfl hZ ?_
        rw [ht]
        refine x_icmpN_ne (n := 109) (tgt := 117) dX12_next_106 rfl (by decide) (by omega) (by omega) (fun c_106 => ?_) (fun c_106 => ?_)
        · refine x_ald0 (n := 118) dX12_next_117 rfl ?_
          refine x_ald0 (n := 119) dX12_next_118 rfl ?_
          refine x_rget (n := 122) flX12_232 rfl dX12_next_119 rfl hZ ?_
          rw [h16]
          refine x_cV1 (n := 125) (d' := 1) zcX12_isLetter mlX12_235 dX12_next_122 rfl (rK hZ) (Nat.le_of_ble_eq_true rfl) (Nat.le_of_ble_eq_true rfl) ?_
          refine c_X12_isLetter hZ ht ht2 (by omega) ?_
          refine x_some ?_
          refine x_zif_eq (n := 128) (tgt := 198) dX12_next_125 rfl (by decide) (fun c_125 => ?_) (fun c_125 => ?_)
          · refine x_ald0 (n := 199) dX12_next_198 rfl ?_
            refine x_ald0 (n := 200) dX12_next_199 rfl ?_
            refine x_rget (n := 203) flX12_232 rfl dX12_next_200 rfl hZ ?_
            rw [h16]
            refine x_cV1 (n := 206) (d' := 1) zcX12_isDigit mlX12_241 dX12_next_203 rfl (rK hZ) (Nat.le_of_ble_eq_true rfl) (Nat.le_of_ble_eq_true rfl) ?_
            refine c_X12_isDigit hZ ht ht2 (by omega) ?_
            refine x_some ?_
            refine x_zif_eq (n := 209) (tgt := 311) dX12_next_206 rfl (by decide) (fun c_206 => ?_) (fun c_206 => ?_)
            · refine x_ald0 (n := 312) dX12_next_311 rfl ?_
              refine x_ic3 (n := 313) dX12_next_312 rfl ?_
              refine x_rput (n := 316) flX12_229 rfl rfl rfl rfl dX12_next_313 rfl hZ ?_
              refine x_ald0 (n := 317) dX12_next_316 rfl ?_
              refine x_ald0 (n := 318) dX12_next_317 rfl ?_
              refine x_getR (n := 321) flX12_49 rfl dX12_next_318 rfl (rK hZ) (rP_tape hZ) ?_
              refine x_ald0 (n := 322) dX12_next_321 rfl ?_
              refine x_rget (n := 325) flX12_232 rfl dX12_next_322 rfl hZ ?_
              rw [va_up_same, upd_off (by omega), h16]
              refine x_old (n := 326) dX12_next_325 rfl (rA_tape hZ) (by decide) (Nat.le_of_ble_eq_true rfl) (by omega) ?_
              rw [va_up_off (show q_tape ≠ qR by decide)]
              refine x_rput (n := 329) flX12_238 rfl rfl rfl rfl dX12_next_326 rfl hZ ?_
              refine x_ald0 (n := 330) dX12_next_329 rfl ?_
              refine x_dup (n := 331) dX12_next_330 rfl rfl ?_
              refine x_rget (n := 334) flX12_226 rfl dX12_next_331 rfl hZ ?_
              rw [va_up_same, upd_off (by omega), va_up_same, upd_off (by omega), h17]
              refine x_ic1 (n := 335) dX12_next_334 rfl ?_
              refine x_iaddN (n := 336) dX12_next_335 rfl ?_
              refine x_rput (n := 339) flX12_226 rfl rfl rfl rfl dX12_next_336 rfl hZ ?_
              refine r_vret dX12_next_339 rfl ?_
              refine hq _ (fun q h => by rw [va_up_off h, va_up_off h, va_up_off h]) ?_
              rw [va_up_same, va_up_same]
              refine ⟨?_, fun i hi => ?_, fun h => absurd h hb, fun _ h => ?_, fun _ _ h => ?_, fun _ _ _ => ⟨upd_same, ?_, ?_⟩⟩
              · rw [upd_off (by omega), upd_off (by omega), upd_off (by omega)]; exact h16
              · rw [upd_off (by omega), upd_off (by omega), upd_off (by omega)]
              · rw [hL'] at h; cases h
              · rw [hD'] at h; cases h
              · rw [upd_off (by omega), upd_off (by omega), upd_same]
              · rw [upd_off (by omega), upd_same]
            · rw [hD'] at c_206; cases c_206
          · rw [hL'] at c_125; cases c_125
        · exact absurd c_106 hb
end
