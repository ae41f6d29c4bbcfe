section
variable {l : Launch} {G : zG} {Z : zS} {I : zI} {g : Nat → Int32} {Q : Option Value → zS → zI → Prop}
theorem zdiv_m1 (x : Int32) : x / (-1) = -x := by
  apply Int32.toInt_inj.mp
  have e : (-1 : Int32).toInt = -1 := by decide
  rw [Int32.toInt_div, e, Int32.toInt_neg, Int.tdiv_neg, Int.tdiv_one]
theorem zq_e {v w : Int32} {I : zI} (hq : Q (some (.int v)) Z I) (h : v = w) : Q (some (.int w)) Z I := by subst h; exact hq
theorem c_X12_joined {j : Nat} {x y : Int32} (hj : signOK j) (hq : Q (some (.int (joinF (nI j) x y))) Z I) : zM l G mX12_joined 0 0 0 [.int (nI j), .int x, .int y] Z I Q := by
  refine x_entry [some (.int (nI j)), some (.int x), some (.int y)] 0 rfl rfl (Nat.le_of_ble_eq_true rfl) ?_
  unfold joinF at hq
  rcases hj with rfl | rfl | rfl | rfl | rfl | rfl | rfl | rfl | rfl <;> rw [ix_nI (by decide)] at hq
  · skip
    refine x_ild0 (n := 1) dX12_joined_0 rfl ?_
    refine x_tswI (n := 116) (off := 115) dX12_joined_1 (by decide) (by decide) (by decide +kernel) (by decide) ?_
    refine x_ild1 (n := 117) dX12_joined_116 rfl ?_
    refine x_ild2 (n := 118) dX12_joined_117 rfl ?_
    refine x_iadd (n := 119) dX12_joined_118 rfl ?_
    refine r_iret dX12_joined_119 rfl ?_
    exact hq
  · skip
    refine x_ild0 (n := 1) dX12_joined_0 rfl ?_
    refine x_tswI (n := 120) (off := 119) dX12_joined_1 (by decide) (by decide) (by decide +kernel) (by decide) ?_
    refine x_ild1 (n := 121) dX12_joined_120 rfl ?_
    refine x_ild2 (n := 122) dX12_joined_121 rfl ?_
    refine x_isub (n := 123) dX12_joined_122 rfl ?_
    refine r_iret dX12_joined_123 rfl ?_
    exact hq
  · skip
    refine x_ild0 (n := 1) dX12_joined_0 rfl ?_
    refine x_tswI (n := 124) (off := 123) dX12_joined_1 (by decide) (by decide) (by decide +kernel) (by decide) ?_
    refine x_ild1 (n := 125) dX12_joined_124 rfl ?_
    refine x_ild2 (n := 126) dX12_joined_125 rfl ?_
    refine x_imul (n := 127) dX12_joined_126 rfl ?_
    refine r_iret dX12_joined_127 rfl ?_
    exact hq
  · skip
    refine x_ild0 (n := 1) dX12_joined_0 rfl ?_
    refine x_tswI (n := 128) (off := 127) dX12_joined_1 (by decide) (by decide) (by decide +kernel) (by decide) ?_
    refine x_ild2 (n := 129) dX12_joined_128 rfl ?_
    refine x_if_ne (n := 132) (tgt := 136) dX12_joined_129 rfl (by decide) (fun c_129 => ?_) (fun c_129 => ?_)
    · refine x_ild2 (n := 137) dX12_joined_136 rfl ?_
      refine x_icm1 (n := 138) dX12_joined_137 rfl ?_
      refine x_icmp_ne (n := 141) (tgt := 146) dX12_joined_138 rfl (by decide) (fun c_138 => ?_) (fun c_138 => ?_)
      · refine x_ild1 (n := 147) dX12_joined_146 rfl ?_
        refine x_ild2 (n := 148) dX12_joined_147 rfl ?_
        refine x_idiv (n := 149) dX12_joined_148 rfl c_129 ?_
        refine r_iret dX12_joined_149 rfl ?_
        first | exact zq_e hq (show joinN 47 x y = nI 0 from if_pos c_129) | exact zq_e hq (show joinN 47 x y = -x from (if_neg c_129).trans (by rw [c_138, zdiv_m1])) | exact zq_e hq (show joinN 47 x y = x / y from if_neg c_129)
      · refine x_ild1 (n := 142) dX12_joined_141 rfl ?_
        refine x_ineg (n := 143) dX12_joined_142 rfl ?_
        refine x_goto (n := 149) dX12_joined_143 (by decide) ?_
        refine r_iret dX12_joined_149 rfl ?_
        first | exact zq_e hq (show joinN 47 x y = nI 0 from if_pos c_129) | exact zq_e hq (show joinN 47 x y = -x from (if_neg c_129).trans (by rw [c_138, zdiv_m1])) | exact zq_e hq (show joinN 47 x y = x / y from if_neg c_129)
    · refine x_ic0 (n := 133) dX12_joined_132 rfl ?_
      refine x_goto (n := 149) dX12_joined_133 (by decide) ?_
      refine r_iret dX12_joined_149 rfl ?_
      first | exact zq_e hq (show joinN 47 x y = nI 0 from if_pos c_129) | exact zq_e hq (show joinN 47 x y = -x from (if_neg c_129).trans (by rw [c_138, zdiv_m1])) | exact zq_e hq (show joinN 47 x y = x / y from if_neg c_129)
  · skip
    refine x_ild0 (n := 1) dX12_joined_0 rfl ?_
    refine x_tswI (n := 150) (off := 149) dX12_joined_1 (by decide) (by decide) (by decide +kernel) (by decide) ?_
    refine x_ild1 (n := 151) dX12_joined_150 rfl ?_
    refine x_ild2 (n := 152) dX12_joined_151 rfl ?_
    refine x_icmp_ge (n := 155) (tgt := 159) dX12_joined_152 rfl (by decide) (fun c_152 => ?_) (fun c_152 => ?_)
    · refine x_ic0 (n := 160) dX12_joined_159 rfl ?_
      refine r_iret dX12_joined_160 rfl ?_
      first | exact zq_e hq (show joinN 60 x y = nI 1 from if_pos (Int32.not_le.mp c_152)) | exact zq_e hq (show joinN 60 x y = nI 0 from if_neg (Int32.not_lt.mpr c_152))
    · refine x_ic1 (n := 156) dX12_joined_155 rfl ?_
      refine x_goto (n := 160) dX12_joined_156 (by decide) ?_
      refine r_iret dX12_joined_160 rfl ?_
      first | exact zq_e hq (show joinN 60 x y = nI 1 from if_pos (Int32.not_le.mp c_152)) | exact zq_e hq (show joinN 60 x y = nI 0 from if_neg (Int32.not_lt.mpr c_152))
  · skip
    refine x_ild0 (n := 1) dX12_joined_0 rfl ?_
    refine x_tswI (n := 161) (off := 160) dX12_joined_1 (by decide) (by decide) (by decide +kernel) (by decide) ?_
    refine x_ild1 (n := 162) dX12_joined_161 rfl ?_
    refine x_ild2 (n := 163) dX12_joined_162 rfl ?_
    refine x_icmp_le (n := 166) (tgt := 170) dX12_joined_163 rfl (by decide) (fun c_163 => ?_) (fun c_163 => ?_)
    · refine x_ic0 (n := 171) dX12_joined_170 rfl ?_
      refine r_iret dX12_joined_171 rfl ?_
      first | exact zq_e hq (show joinN 62 x y = nI 1 from if_pos (Int32.not_le.mp c_163)) | exact zq_e hq (show joinN 62 x y = nI 0 from if_neg (Int32.not_lt.mpr c_163))
    · refine x_ic1 (n := 167) dX12_joined_166 rfl ?_
      refine x_goto (n := 171) dX12_joined_167 (by decide) ?_
      refine r_iret dX12_joined_171 rfl ?_
      first | exact zq_e hq (show joinN 62 x y = nI 1 from if_pos (Int32.not_le.mp c_163)) | exact zq_e hq (show joinN 62 x y = nI 0 from if_neg (Int32.not_lt.mpr c_163))
  · skip
    refine x_ild0 (n := 1) dX12_joined_0 rfl ?_
    refine x_tswI (n := 172) (off := 171) dX12_joined_1 (by decide) (by decide) (by decide +kernel) (by decide) ?_
    refine x_ild1 (n := 173) dX12_joined_172 rfl ?_
    refine x_ild2 (n := 174) dX12_joined_173 rfl ?_
    refine x_icmp_ne (n := 177) (tgt := 181) dX12_joined_174 rfl (by decide) (fun c_174 => ?_) (fun c_174 => ?_)
    · refine x_ic0 (n := 182) dX12_joined_181 rfl ?_
      refine r_iret dX12_joined_182 rfl ?_
      first | exact zq_e hq (show joinN 61 x y = nI 1 from if_pos c_174) | exact zq_e hq (show joinN 61 x y = nI 0 from if_neg c_174)
    · refine x_ic1 (n := 178) dX12_joined_177 rfl ?_
      refine x_goto (n := 182) dX12_joined_178 (by decide) ?_
      refine r_iret dX12_joined_182 rfl ?_
      first | exact zq_e hq (show joinN 61 x y = nI 1 from if_pos c_174) | exact zq_e hq (show joinN 61 x y = nI 0 from if_neg c_174)
  · skip
    refine x_ild0 (n := 1) dX12_joined_0 rfl ?_
    refine x_tswI (n := 183) (off := 182) dX12_joined_1 (by decide) (by decide) (by decide +kernel) (by decide) ?_
    refine x_ild1 (n := 184) dX12_joined_183 rfl ?_
    refine x_if_eq (n := 187) (tgt := 195) dX12_joined_184 rfl (by decide) (fun c_184 => ?_) (fun c_184 => ?_)
    · refine x_ic0 (n := 196) dX12_joined_195 rfl ?_
      refine r_iret dX12_joined_196 rfl ?_
      refine zq_e hq ?_
      show (if x ≠ 0 ∧ y ≠ 0 then nI 1 else nI 0) = _
      grind
    · refine x_ild2 (n := 188) dX12_joined_187 rfl ?_
      refine x_if_eq (n := 191) (tgt := 195) dX12_joined_188 rfl (by decide) (fun c_188 => ?_) (fun c_188 => ?_)
      · refine x_ic0 (n := 196) dX12_joined_195 rfl ?_
        refine r_iret dX12_joined_196 rfl ?_
        refine zq_e hq ?_
        show (if x ≠ 0 ∧ y ≠ 0 then nI 1 else nI 0) = _
        grind
      · refine x_ic1 (n := 192) dX12_joined_191 rfl ?_
        refine x_goto (n := 196) dX12_joined_192 (by decide) ?_
        refine r_iret dX12_joined_196 rfl ?_
        refine zq_e hq ?_
        show (if x ≠ 0 ∧ y ≠ 0 then nI 1 else nI 0) = _
        grind
  · skip
    refine x_ild0 (n := 1) dX12_joined_0 rfl ?_
    refine x_tswO (n := 197) dX12_joined_1 (by decide) (by decide) ?_
    refine x_ild1 (n := 198) dX12_joined_197 rfl ?_
    refine x_if_ne (n := 201) (tgt := 205) dX12_joined_198 rfl (by decide) (fun c_198 => ?_) (fun c_198 => ?_)
    · refine x_ic1 (n := 206) dX12_joined_205 rfl ?_
      refine x_goto (n := 210) dX12_joined_206 (by decide) ?_
      refine r_iret dX12_joined_210 rfl ?_
      refine zq_e hq ?_
      show (if x ≠ 0 ∨ y ≠ 0 then nI 1 else nI 0) = _
      grind
    · refine x_ild2 (n := 202) dX12_joined_201 rfl ?_
      refine x_if_eq (n := 205) (tgt := 209) dX12_joined_202 rfl (by decide) (fun c_202 => ?_) (fun c_202 => ?_)
      · refine x_ic0 (n := 210) dX12_joined_209 rfl ?_
        refine r_iret dX12_joined_210 rfl ?_
        refine zq_e hq ?_
        show (if x ≠ 0 ∨ y ≠ 0 then nI 1 else nI 0) = _
        grind
      · refine x_ic1 (n := 206) dX12_joined_205 rfl ?_
        refine x_goto (n := 210) dX12_joined_206 (by decide) ?_
        refine r_iret dX12_joined_210 rfl ?_
        refine zq_e hq ?_
        show (if x ≠ 0 ∨ y ≠ 0 then nI 1 else nI 0) = _
        grind
theorem c_X12_heldIn {v : Int32} {k : Nat} (hk : k < 200000) (hq : Q (some (.int (heldF v k))) Z I) : zM l G mX12_heldIn 0 0 0 [.int v, .int (nI k)] Z I Q := by
  refine x_entry [some (.int v), some (.int (nI k))] 0 rfl rfl (Nat.le_of_ble_eq_true rfl) ?_
  unfold heldF at hq
  refine x_ild0 (n := 1) dX12_heldIn_0 rfl ?_
  refine x_if_ge (n := 4) (tgt := 8) dX12_heldIn_1 rfl (by decide) (fun c_1 => ?_) (fun c_1 => ?_)
  · refine x_ild0 (n := 9) dX12_heldIn_8 rfl ?_
    refine x_ild1 (n := 10) dX12_heldIn_9 rfl ?_
    refine x_icmp_le (n := 13) (tgt := 17) dX12_heldIn_10 rfl (by decide) (fun c_10 => ?_) (fun c_10 => ?_)
    · refine x_ild0 (n := 18) dX12_heldIn_17 rfl ?_
      refine r_iret dX12_heldIn_18 rfl ?_
      first | (rw [if_pos (Int32.not_le.mp c_1)] at hq; exact hq) | (rw [if_neg (Int32.not_lt.mpr c_1), if_pos (Int32.not_le.mp c_10)] at hq; exact hq) | (rw [if_neg (Int32.not_lt.mpr c_1), if_neg (Int32.not_lt.mpr c_10)] at hq; exact hq)
    · refine x_ild1 (n := 14) dX12_heldIn_13 rfl ?_
      refine x_goto (n := 18) dX12_heldIn_14 (by decide) ?_
      refine r_iret dX12_heldIn_18 rfl ?_
      first | (rw [if_pos (Int32.not_le.mp c_1)] at hq; exact hq) | (rw [if_neg (Int32.not_lt.mpr c_1), if_pos (Int32.not_le.mp c_10)] at hq; exact hq) | (rw [if_neg (Int32.not_lt.mpr c_1), if_neg (Int32.not_lt.mpr c_10)] at hq; exact hq)
  · refine x_ic0 (n := 5) dX12_heldIn_4 rfl ?_
    refine x_goto (n := 18) dX12_heldIn_5 (by decide) ?_
    refine r_iret dX12_heldIn_18 rfl ?_
    first | (rw [if_pos (Int32.not_le.mp c_1)] at hq; exact hq) | (rw [if_neg (Int32.not_lt.mpr c_1), if_pos (Int32.not_le.mp c_10)] at hq; exact hq) | (rw [if_neg (Int32.not_lt.mpr c_1), if_neg (Int32.not_lt.mpr c_10)] at hq; exact hq)
def oI (o : Option Nat) : Int32 := match o with
  | none => -1
  | some t => nI t
theorem cntF_lt {key : Int32} : ∀ {n t : Nat}, cntF g key n = some t → t < n
  | 0, t, h => by cases h
  | n + 1, t, h => by
    unfold cntF at h
    split at h
    · cases h; omega
    · have := cntF_lt h; omega
theorem l_X12_counts (hZ : ShR Z) {key : Int32} (h3 : g 3 = nI (vN g 3)) (h32 : vN g 3 ≤ 14) (hq : Q (some (.int (oI (cntF g key (vN g 3))))) Z (va_up I q_s g)) : ∀ m k, k ≤ vN g 3 → vN g 3 - k < m → zX l G mX12_counts 1 0 0 4 [some (.ref qR), some (.int key), some (.int (oI (cntF g key k))), some (.int (nI k)), none] [] Z (va_up I q_s g) Q := by
  intro m
  induction m with
  | zero => intro k _ h; exact absurd h (by omega)
  | succ m ih =>
    intro k hk hm
    have ihk := ih (k + 1)
    have step : ∀ (o : Option Nat), (if g (2520 + 200 * k) = key ∧ g (2520 + 200 * k + 1) ≤ g 8 ∧ (∀ b, cntF g key k = some b → g (2520 + 200 * b + 1) ≤ g (2520 + 200 * k + 1)) then some k else cntF g key k) = o → k + 1 ≤ vN g 3 → zX l G mX12_counts 1 0 0 4 [some (.ref qR), some (.int key), some (.int (oI o)), some (.int (nI (k + 1))), none] [] Z (va_up I q_s g) Q := by
      intro o ho hk1
      have := ihk hk1 (by omega)
      rw [show cntF g key (k + 1) = o from ho] at this
      exact this
    cases hc : cntF g key k with
    | none =>
      show zX l G mX12_counts 1 0 0 4 [some (.ref qR), some (.int key), some (.int (-1)), some (.int (nI k)), none] [] Z (va_up I q_s g) Q
      refine x_ild3 (n := 5) dX12_counts_4 rfl ?_
      refine x_ald0 (n := 6) dX12_counts_5 rfl ?_
      refine x_getR (n := 9) flX12_7 rfl dX12_counts_6 rfl (rK hZ) (rP_s hZ) ?_
      refine x_ic3 (n := 10) dX12_counts_9 rfl ?_
      refine x_sld (n := 11) dX12_counts_10 rfl hZ (by omega) ?_
      rw [h3]
      refine x_icmpN_ge (n := 14) (tgt := 107) dX12_counts_11 rfl (by decide) (by omega) (by omega) (fun c_11 => ?_) (fun c_11 => ?_)
      · refine x_ild2 (n := 108) dX12_counts_107 rfl ?_
        refine r_iret dX12_counts_108 rfl ?_
        rw [show vN g 3 = k by omega, hc] at hq; exact hq
      · refine x_ald0 (n := 15) dX12_counts_14 rfl ?_
        refine x_getR (n := 18) flX12_7 rfl dX12_counts_15 rfl (rK hZ) (rP_s hZ) ?_
        refine x_ald0 (n := 19) dX12_counts_18 rfl ?_
        refine x_ild3 (n := 20) dX12_counts_19 rfl ?_
        refine x_cV1 (n := 23) (d' := 0) zcX12_textAt mlX12_302 dX12_counts_20 rfl (rK hZ) (Nat.le_of_ble_eq_true rfl) (Nat.le_of_ble_eq_true rfl) ?_
        refine c_X12_textAt ?_
        refine x_some ?_
        refine x_ic0 (n := 24) dX12_counts_23 rfl ?_
        refine x_iaddN (n := 25) dX12_counts_24 rfl ?_
        refine x_sld (n := 26) dX12_counts_25 rfl hZ (by omega) ?_
        refine x_ild1 (n := 27) dX12_counts_26 rfl ?_
        refine x_icmp_ne (n := 30) (tgt := 56) dX12_counts_27 rfl (by decide) (fun c_27 => ?_) (fun c_27 => ?_)
        · refine x_ic0 (n := 57) dX12_counts_56 rfl ?_
          refine x_ist4 (n := 59) dX12_counts_57 rfl (by decide) rfl ?_
          refine x_ild4 (n := 61) dX12_counts_59 rfl ?_
          refine x_if_eq (n := 64) (tgt := 99) dX12_counts_61 rfl (by decide) (fun c_61 => ?_) (fun c_61 => ?_)
          · refine x_ild2 (n := 100) dX12_counts_99 rfl ?_
            refine x_ist2 (n := 101) dX12_counts_100 rfl (by decide) rfl ?_
            refine x_iincN3 (n := 104) (k := 1) dX12_counts_101 rfl (by decide) rfl ?_
            refine x_goto (n := 4) dX12_counts_104 (by decide) ?_
            refine x_fg4 ?_
            first | exact step none (by rw [hc]; exact if_neg (fun h => c_27 h.1)) (by omega) | exact step none (by rw [hc]; exact if_neg (fun h => Int32.not_le.mpr c_49 h.2.1)) (by omega) | exact step (some k) (by rw [hc]; exact if_pos ⟨c_27, Int32.not_lt.mp c_49, fun b hb => by cases hb⟩) (by omega)
          · exact absurd (by decide) c_61
        · refine x_ald0 (n := 31) dX12_counts_30 rfl ?_
          refine x_getR (n := 34) flX12_7 rfl dX12_counts_31 rfl (rK hZ) (rP_s hZ) ?_
          refine x_ald0 (n := 35) dX12_counts_34 rfl ?_
          refine x_ild3 (n := 36) dX12_counts_35 rfl ?_
          refine x_cV1 (n := 39) (d' := 0) zcX12_textAt mlX12_302 dX12_counts_36 rfl (rK hZ) (Nat.le_of_ble_eq_true rfl) (Nat.le_of_ble_eq_true rfl) ?_
          refine c_X12_textAt ?_
          refine x_some ?_
          refine x_ic1 (n := 40) dX12_counts_39 rfl ?_
          refine x_iaddN (n := 41) dX12_counts_40 rfl ?_
          refine x_sld (n := 42) dX12_counts_41 rfl hZ (by omega) ?_
          refine x_ald0 (n := 43) dX12_counts_42 rfl ?_
          refine x_getR (n := 46) flX12_7 rfl dX12_counts_43 rfl (rK hZ) (rP_s hZ) ?_
          refine x_bipush (n := 48) (v := nI 8) dX12_counts_46 rfl (by decide) ?_
          refine x_sld (n := 49) dX12_counts_48 rfl hZ (by omega) ?_
          refine x_icmp_gt (n := 52) (tgt := 56) dX12_counts_49 rfl (by decide) (fun c_49 => ?_) (fun c_49 => ?_)
          · refine x_ic0 (n := 57) dX12_counts_56 rfl ?_
            refine x_ist4 (n := 59) dX12_counts_57 rfl (by decide) rfl ?_
            refine x_ild4 (n := 61) dX12_counts_59 rfl ?_
            refine x_if_eq (n := 64) (tgt := 99) dX12_counts_61 rfl (by decide) (fun c_61 => ?_) (fun c_61 => ?_)
            · refine x_ild2 (n := 100) dX12_counts_99 rfl ?_
              refine x_ist2 (n := 101) dX12_counts_100 rfl (by decide) rfl ?_
              refine x_iincN3 (n := 104) (k := 1) dX12_counts_101 rfl (by decide) rfl ?_
              refine x_goto (n := 4) dX12_counts_104 (by decide) ?_
              refine x_fg4 ?_
              first | exact step none (by rw [hc]; exact if_neg (fun h => c_27 h.1)) (by omega) | exact step none (by rw [hc]; exact if_neg (fun h => Int32.not_le.mpr c_49 h.2.1)) (by omega) | exact step (some k) (by rw [hc]; exact if_pos ⟨c_27, Int32.not_lt.mp c_49, fun b hb => by cases hb⟩) (by omega)
            · exact absurd (by decide) c_61
          · refine x_ic1 (n := 53) dX12_counts_52 rfl ?_
            refine x_goto (n := 57) dX12_counts_53 (by decide) ?_
            refine x_ist4 (n := 59) dX12_counts_57 rfl (by decide) rfl ?_
            refine x_ild4 (n := 61) dX12_counts_59 rfl ?_
            refine x_if_eq (n := 64) (tgt := 99) dX12_counts_61 rfl (by decide) (fun c_61 => ?_) (fun c_61 => ?_)
            · exact absurd c_61 (by decide)
            · refine x_ild2 (n := 65) dX12_counts_64 rfl ?_
              refine x_if_lt (n := 68) (tgt := 95) dX12_counts_65 rfl (by decide) (fun c_65 => ?_) (fun c_65 => ?_)
              · refine x_ild3 (n := 96) dX12_counts_95 rfl ?_
                refine x_goto (n := 100) dX12_counts_96 (by decide) ?_
                refine x_ist2 (n := 101) dX12_counts_100 rfl (by decide) rfl ?_
                refine x_iincN3 (n := 104) (k := 1) dX12_counts_101 rfl (by decide) rfl ?_
                refine x_goto (n := 4) dX12_counts_104 (by decide) ?_
                refine x_fg4 ?_
                first | exact step none (by rw [hc]; exact if_neg (fun h => c_27 h.1)) (by omega) | exact step none (by rw [hc]; exact if_neg (fun h => Int32.not_le.mpr c_49 h.2.1)) (by omega) | exact step (some k) (by rw [hc]; exact if_pos ⟨c_27, Int32.not_lt.mp c_49, fun b hb => by cases hb⟩) (by omega)
              · exact absurd (by decide) c_65
    | some b =>
      have hb := cntF_lt hc
      show zX l G mX12_counts 1 0 0 4 [some (.ref qR), some (.int key), some (.int (nI b)), some (.int (nI k)), none] [] Z (va_up I q_s g) Q
      refine x_ild3 (n := 5) dX12_counts_4 rfl ?_
      refine x_ald0 (n := 6) dX12_counts_5 rfl ?_
      refine x_getR (n := 9) flX12_7 rfl dX12_counts_6 rfl (rK hZ) (rP_s hZ) ?_
      refine x_ic3 (n := 10) dX12_counts_9 rfl ?_
      refine x_sld (n := 11) dX12_counts_10 rfl hZ (by omega) ?_
      rw [h3]
      refine x_icmpN_ge (n := 14) (tgt := 107) dX12_counts_11 rfl (by decide) (by omega) (by omega) (fun c_11 => ?_) (fun c_11 => ?_)
      · refine x_ild2 (n := 108) dX12_counts_107 rfl ?_
        refine r_iret dX12_counts_108 rfl ?_
        rw [show vN g 3 = k by omega, hc] at hq; exact hq
      · refine x_ald0 (n := 15) dX12_counts_14 rfl ?_
        refine x_getR (n := 18) flX12_7 rfl dX12_counts_15 rfl (rK hZ) (rP_s hZ) ?_
        refine x_ald0 (n := 19) dX12_counts_18 rfl ?_
        refine x_ild3 (n := 20) dX12_counts_19 rfl ?_
        refine x_cV1 (n := 23) (d' := 0) zcX12_textAt mlX12_302 dX12_counts_20 rfl (rK hZ) (Nat.le_of_ble_eq_true rfl) (Nat.le_of_ble_eq_true rfl) ?_
        refine c_X12_textAt ?_
        refine x_some ?_
        refine x_ic0 (n := 24) dX12_counts_23 rfl ?_
        refine x_iaddN (n := 25) dX12_counts_24 rfl ?_
        refine x_sld (n := 26) dX12_counts_25 rfl hZ (by omega) ?_
        refine x_ild1 (n := 27) dX12_counts_26 rfl ?_
        refine x_icmp_ne (n := 30) (tgt := 56) dX12_counts_27 rfl (by decide) (fun c_27 => ?_) (fun c_27 => ?_)
        · refine x_ic0 (n := 57) dX12_counts_56 rfl ?_
          refine x_ist4 (n := 59) dX12_counts_57 rfl (by decide) rfl ?_
          refine x_ild4 (n := 61) dX12_counts_59 rfl ?_
          refine x_if_eq (n := 64) (tgt := 99) dX12_counts_61 rfl (by decide) (fun c_61 => ?_) (fun c_61 => ?_)
          · refine x_ild2 (n := 100) dX12_counts_99 rfl ?_
            refine x_ist2 (n := 101) dX12_counts_100 rfl (by decide) rfl ?_
            refine x_iincN3 (n := 104) (k := 1) dX12_counts_101 rfl (by decide) rfl ?_
            refine x_goto (n := 4) dX12_counts_104 (by decide) ?_
            refine x_fg4 ?_
            first | exact step (some b) (by rw [hc]; exact if_neg (fun h => c_27 h.1)) (by omega) | exact step (some b) (by rw [hc]; exact if_neg (fun h => Int32.not_le.mpr c_49 h.2.1)) (by omega) | exact step (some k) (by rw [hc]; exact if_pos ⟨c_27, Int32.not_lt.mp c_49, fun b2 hb2 => by cases hb2; exact Int32.not_lt.mp c_92⟩) (by omega) | exact step (some b) (by rw [hc]; exact if_neg (fun h => Int32.not_le.mpr c_92 (h.2.2 b rfl))) (by omega)
          · exact absurd (by decide) c_61
        · refine x_ald0 (n := 31) dX12_counts_30 rfl ?_
          refine x_getR (n := 34) flX12_7 rfl dX12_counts_31 rfl (rK hZ) (rP_s hZ) ?_
          refine x_ald0 (n := 35) dX12_counts_34 rfl ?_
          refine x_ild3 (n := 36) dX12_counts_35 rfl ?_
          refine x_cV1 (n := 39) (d' := 0) zcX12_textAt mlX12_302 dX12_counts_36 rfl (rK hZ) (Nat.le_of_ble_eq_true rfl) (Nat.le_of_ble_eq_true rfl) ?_
          refine c_X12_textAt ?_
          refine x_some ?_
          refine x_ic1 (n := 40) dX12_counts_39 rfl ?_
          refine x_iaddN (n := 41) dX12_counts_40 rfl ?_
          refine x_sld (n := 42) dX12_counts_41 rfl hZ (by omega) ?_
          refine x_ald0 (n := 43) dX12_counts_42 rfl ?_
          refine x_getR (n := 46) flX12_7 rfl dX12_counts_43 rfl (rK hZ) (rP_s hZ) ?_
          refine x_bipush (n := 48) (v := nI 8) dX12_counts_46 rfl (by decide) ?_
          refine x_sld (n := 49) dX12_counts_48 rfl hZ (by omega) ?_
          refine x_icmp_gt (n := 52) (tgt := 56) dX12_counts_49 rfl (by decide) (fun c_49 => ?_) (fun c_49 => ?_)
          · refine x_ic0 (n := 57) dX12_counts_56 rfl ?_
            refine x_ist4 (n := 59) dX12_counts_57 rfl (by decide) rfl ?_
            refine x_ild4 (n := 61) dX12_counts_59 rfl ?_
            refine x_if_eq (n := 64) (tgt := 99) dX12_counts_61 rfl (by decide) (fun c_61 => ?_) (fun c_61 => ?_)
            · refine x_ild2 (n := 100) dX12_counts_99 rfl ?_
              refine x_ist2 (n := 101) dX12_counts_100 rfl (by decide) rfl ?_
              refine x_iincN3 (n := 104) (k := 1) dX12_counts_101 rfl (by decide) rfl ?_
              refine x_goto (n := 4) dX12_counts_104 (by decide) ?_
              refine x_fg4 ?_
              first | exact step (some b) (by rw [hc]; exact if_neg (fun h => c_27 h.1)) (by omega) | exact step (some b) (by rw [hc]; exact if_neg (fun h => Int32.not_le.mpr c_49 h.2.1)) (by omega) | exact step (some k) (by rw [hc]; exact if_pos ⟨c_27, Int32.not_lt.mp c_49, fun b2 hb2 => by cases hb2; exact Int32.not_lt.mp c_92⟩) (by omega) | exact step (some b) (by rw [hc]; exact if_neg (fun h => Int32.not_le.mpr c_92 (h.2.2 b rfl))) (by omega)
            · exact absurd (by decide) c_61
          · refine x_ic1 (n := 53) dX12_counts_52 rfl ?_
            refine x_goto (n := 57) dX12_counts_53 (by decide) ?_
            refine x_ist4 (n := 59) dX12_counts_57 rfl (by decide) rfl ?_
            refine x_ild4 (n := 61) dX12_counts_59 rfl ?_
            refine x_if_eq (n := 64) (tgt := 99) dX12_counts_61 rfl (by decide) (fun c_61 => ?_) (fun c_61 => ?_)
            · exact absurd c_61 (by decide)
            · refine x_ild2 (n := 65) dX12_counts_64 rfl ?_
              refine x_if_lt (n := 68) (tgt := 95) dX12_counts_65 rfl (by decide) (fun c_65 => ?_) (fun c_65 => ?_)
              · exact absurd c_65 (nI_pos (by omega))
              · refine x_ald0 (n := 69) dX12_counts_68 rfl ?_
                refine x_getR (n := 72) flX12_7 rfl dX12_counts_69 rfl (rK hZ) (rP_s hZ) ?_
                refine x_ald0 (n := 73) dX12_counts_72 rfl ?_
                refine x_ild3 (n := 74) dX12_counts_73 rfl ?_
                refine x_cV1 (n := 77) (d' := 0) zcX12_textAt mlX12_302 dX12_counts_74 rfl (rK hZ) (Nat.le_of_ble_eq_true rfl) (Nat.le_of_ble_eq_true rfl) ?_
                refine c_X12_textAt ?_
                refine x_some ?_
                refine x_ic1 (n := 78) dX12_counts_77 rfl ?_
                refine x_iaddN (n := 79) dX12_counts_78 rfl ?_
                refine x_sld (n := 80) dX12_counts_79 rfl hZ (by omega) ?_
                refine x_ald0 (n := 81) dX12_counts_80 rfl ?_
                refine x_getR (n := 84) flX12_7 rfl dX12_counts_81 rfl (rK hZ) (rP_s hZ) ?_
                refine x_ald0 (n := 85) dX12_counts_84 rfl ?_
                refine x_ild2 (n := 86) dX12_counts_85 rfl ?_
                refine x_cV1 (n := 89) (d' := 0) zcX12_textAt mlX12_302 dX12_counts_86 rfl (rK hZ) (Nat.le_of_ble_eq_true rfl) (Nat.le_of_ble_eq_true rfl) ?_
                refine c_X12_textAt ?_
                refine x_some ?_
                refine x_ic1 (n := 90) dX12_counts_89 rfl ?_
                refine x_iaddN (n := 91) dX12_counts_90 rfl ?_
                refine x_sld (n := 92) dX12_counts_91 rfl hZ (by omega) ?_
                refine x_icmp_lt (n := 95) (tgt := 99) dX12_counts_92 rfl (by decide) (fun c_92 => ?_) (fun c_92 => ?_)
                · refine x_ild2 (n := 100) dX12_counts_99 rfl ?_
                  refine x_ist2 (n := 101) dX12_counts_100 rfl (by decide) rfl ?_
                  refine x_iincN3 (n := 104) (k := 1) dX12_counts_101 rfl (by decide) rfl ?_
                  refine x_goto (n := 4) dX12_counts_104 (by decide) ?_
                  refine x_fg4 ?_
                  first | exact step (some b) (by rw [hc]; exact if_neg (fun h => c_27 h.1)) (by omega) | exact step (some b) (by rw [hc]; exact if_neg (fun h => Int32.not_le.mpr c_49 h.2.1)) (by omega) | exact step (some k) (by rw [hc]; exact if_pos ⟨c_27, Int32.not_lt.mp c_49, fun b2 hb2 => by cases hb2; exact Int32.not_lt.mp c_92⟩) (by omega) | exact step (some b) (by rw [hc]; exact if_neg (fun h => Int32.not_le.mpr c_92 (h.2.2 b rfl))) (by omega)
                · refine x_ild3 (n := 96) dX12_counts_95 rfl ?_
                  refine x_goto (n := 100) dX12_counts_96 (by decide) ?_
                  refine x_ist2 (n := 101) dX12_counts_100 rfl (by decide) rfl ?_
                  refine x_iincN3 (n := 104) (k := 1) dX12_counts_101 rfl (by decide) rfl ?_
                  refine x_goto (n := 4) dX12_counts_104 (by decide) ?_
                  refine x_fg4 ?_
                  first | exact step (some b) (by rw [hc]; exact if_neg (fun h => c_27 h.1)) (by omega) | exact step (some b) (by rw [hc]; exact if_neg (fun h => Int32.not_le.mpr c_49 h.2.1)) (by omega) | exact step (some k) (by rw [hc]; exact if_pos ⟨c_27, Int32.not_lt.mp c_49, fun b2 hb2 => by cases hb2; exact Int32.not_lt.mp c_92⟩) (by omega) | exact step (some b) (by rw [hc]; exact if_neg (fun h => Int32.not_le.mpr c_92 (h.2.2 b rfl))) (by omega)
theorem c_X12_counts (hZ : ShR Z) {key : Int32} (h3 : g 3 = nI (vN g 3)) (h32 : vN g 3 ≤ 14) (hq : Q (some (.int (oI (cntF g key (vN g 3))))) Z (va_up I q_s g)) : zM l G mX12_counts 1 0 0 [.ref qR, .int key] Z (va_up I q_s g) Q := by
  refine x_entry [some (.ref qR), some (.int key), none, none, none] 3 rfl rfl (Nat.le_of_ble_eq_true rfl) ?_
  refine x_icm1 (n := 1) dX12_counts_0 rfl ?_
  refine x_ist2 (n := 2) dX12_counts_1 rfl (by decide) rfl ?_
  refine x_ic0 (n := 3) dX12_counts_2 rfl ?_
  refine x_ist3 (n := 4) dX12_counts_3 rfl (by decide) rfl ?_
  exact l_X12_counts hZ h3 h32 hq (vN g 3 + 1) 0 (by omega) (by omega)
end
