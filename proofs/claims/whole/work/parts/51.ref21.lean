section
variable {l : Launch} {G : zG} {Z : zS} {I : zI} {g g' : Nat → Int32} {Q : Option Value → zS → zI → Prop}
theorem l4_X12_check {n w k : Nat} (hn : n ≤ 30) (hw : w ≤ 60) (hk : k ≤ 60) (hq : Q (some (.int (if k = w ∧ k = 2 * n then nI 0 else nI (1 + k)))) Z (va_up I q_s g)) : zX l G mX12_check 6 0 0 193 [some (.ref qR), some (.int (nI n)), some (.int (nI w)), some (.int (nI k)), none] [] Z (va_up I q_s g) Q := by
  refine x_ild3 (n := 194) dX12_check_193 rfl ?_
  refine x_ild2 (n := 195) dX12_check_194 rfl ?_
  refine x_icmpN_ne (n := 198) (tgt := 209) dX12_check_195 rfl (by decide) (by omega) (by omega) (fun c_195 => ?_) (fun c_195 => ?_)
  · refine x_ic1 (n := 210) dX12_check_209 rfl ?_
    refine x_ild3 (n := 211) dX12_check_210 rfl ?_
    refine x_iaddN (n := 212) dX12_check_211 rfl ?_
    refine r_iret dX12_check_212 rfl ?_
    first | (rw [if_pos (by omega)] at hq; exact hq) | (rw [if_neg (by omega)] at hq; exact hq)
  · refine x_ild3 (n := 199) dX12_check_198 rfl ?_
    refine x_ic2 (n := 200) dX12_check_199 rfl ?_
    refine x_ild1 (n := 201) dX12_check_200 rfl ?_
    refine x_imulN (n := 202) dX12_check_201 rfl ?_
    refine x_icmpN_ne (n := 205) (tgt := 209) dX12_check_202 rfl (by decide) (by omega) (by omega) (fun c_202 => ?_) (fun c_202 => ?_)
    · refine x_ic1 (n := 210) dX12_check_209 rfl ?_
      refine x_ild3 (n := 211) dX12_check_210 rfl ?_
      refine x_iaddN (n := 212) dX12_check_211 rfl ?_
      refine r_iret dX12_check_212 rfl ?_
      first | (rw [if_pos (by omega)] at hq; exact hq) | (rw [if_neg (by omega)] at hq; exact hq)
    · refine x_ic0 (n := 206) dX12_check_205 rfl ?_
      refine x_goto (n := 212) dX12_check_206 (by decide) ?_
      refine r_iret dX12_check_212 rfl ?_
      first | (rw [if_pos (by omega)] at hq; exact hq) | (rw [if_neg (by omega)] at hq; exact hq)
theorem l3_X12_check (hZ : ShR Z) {n w : Nat} {h : Nat → Int32} (hn : n ≤ 30) (hw : w ≤ 60) (hr : ∀ j, j < 2 * n → I q_row j = h j) : ∀ f k, k + f = min w (2 * n) → Q (some (.int (if prefF (I q_waits) h f k = w ∧ prefF (I q_waits) h f k = 2 * n then nI 0 else nI (1 + prefF (I q_waits) h f k)))) Z (va_up I q_s g) → zX l G mX12_check 6 0 0 160 [some (.ref qR), some (.int (nI n)), some (.int (nI w)), some (.int (nI k)), none] [] Z (va_up I q_s g) Q := by
  intro f
  induction f with
  | zero =>
    intro k hk hq
    refine x_ild3 (n := 161) dX12_check_160 rfl ?_
    refine x_ild2 (n := 162) dX12_check_161 rfl ?_
    refine x_icmpN_ge (n := 165) (tgt := 193) dX12_check_162 rfl (by decide) (by omega) (by omega) (fun c_162 => ?_) (fun c_162 => ?_)
    · exact l4_X12_check hn hw (by omega) hq
    · refine x_ild3 (n := 166) dX12_check_165 rfl ?_
      refine x_ic2 (n := 167) dX12_check_166 rfl ?_
      refine x_ild1 (n := 168) dX12_check_167 rfl ?_
      refine x_imulN (n := 169) dX12_check_168 rfl ?_
      refine x_icmpN_ge (n := 172) (tgt := 193) dX12_check_169 rfl (by decide) (by omega) (by omega) (fun c_169 => ?_) (fun c_169 => ?_)
      · exact l4_X12_check hn hw (by omega) hq
      · exact absurd hk (by omega)
  | succ f ih =>
    intro k hk hq
    unfold prefF at hq
    refine x_ild3 (n := 161) dX12_check_160 rfl ?_
    refine x_ild2 (n := 162) dX12_check_161 rfl ?_
    refine x_icmpN_ge (n := 165) (tgt := 193) dX12_check_162 rfl (by decide) (by omega) (by omega) (fun c_162 => ?_) (fun c_162 => ?_)
    · exact absurd c_162 (by omega)
    · refine x_ild3 (n := 166) dX12_check_165 rfl ?_
      refine x_ic2 (n := 167) dX12_check_166 rfl ?_
      refine x_ild1 (n := 168) dX12_check_167 rfl ?_
      refine x_imulN (n := 169) dX12_check_168 rfl ?_
      refine x_icmpN_ge (n := 172) (tgt := 193) dX12_check_169 rfl (by decide) (by omega) (by omega) (fun c_169 => ?_) (fun c_169 => ?_)
      · exact absurd c_169 (by omega)
      · refine x_ald0 (n := 173) dX12_check_172 rfl ?_
        refine x_getR (n := 176) flX12_74 rfl dX12_check_173 rfl (rK hZ) (rP_waits hZ) ?_
        refine x_ild3 (n := 177) dX12_check_176 rfl ?_
        refine x_old (n := 178) dX12_check_177 rfl (rA_waits hZ) (by decide) (Nat.le_of_ble_eq_true rfl) (by omega) ?_
        refine x_ald0 (n := 179) dX12_check_178 rfl ?_
        refine x_getR (n := 182) flX12_77 rfl dX12_check_179 rfl (rK hZ) (rP_row hZ) ?_
        refine x_ild3 (n := 183) dX12_check_182 rfl ?_
        refine x_old (n := 184) dX12_check_183 rfl (rA_row hZ) (by decide) (Nat.le_of_ble_eq_true rfl) (by omega) ?_
        rw [hr k (by omega)]
        refine x_icmp_ne (n := 187) (tgt := 193) dX12_check_184 rfl (by decide) (fun c_184 => ?_) (fun c_184 => ?_)
        · rw [if_neg c_184] at hq
          exact l4_X12_check hn hw (by omega) hq
        · refine x_iincN3 (n := 190) (k := 1) dX12_check_187 rfl (by decide) rfl ?_
          refine x_goto (n := 160) dX12_check_190 (by decide) ?_
          rw [if_pos c_184] at hq
          exact ih (k + 1) (by omega) hq
theorem cpF_cp {f h k u : Nat → Int32} (hf : ∀ j, 5530 ≤ j → u j = f j) : cpF (cpF f h 5530) u 5530 = f := by
  funext j
  unfold cpF
  by_cases e : j < 5530
  · rw [if_pos e, if_pos e]
  · rw [if_neg e]; exact hf j (by omega)
theorem l5_X12_check (hZ : ShR Z) (hC : RfC I) {w n : Nat} (hw2 : w ≤ 60) (hn : n ≤ 30) (hB : InvB (I q_image)) (hT : InvT (I q_image)) (hd : vN (I q_image) 8 ≤ 1999)
    (hq : ∀ I' : zI, offK I I' → I' qR = upd (I qR) 34 (nI 0) → Q (some (.int (if prefF (I q_waits) (chkR (cpF (I q_image) g 5530)) (min w (2 * n)) 0 = w ∧ prefF (I q_waits) (chkR (cpF (I q_image) g 5530)) (min w (2 * n)) 0 = 2 * n then nI 0 else nI (1 + prefF (I q_waits) (chkR (cpF (I q_image) g 5530)) (min w (2 * n)) 0)))) Z (va_up I' q_s g)) :
    zX l G mX12_check 6 0 0 61 [some (.ref qR), some (.int (nI n)), some (.int (nI w)), some (.int (nI 0)), none] [] Z (va_up (va_up (va_up I qR (upd (I qR) 34 (nI 0))) q_aside (cpF g (I q_aside) 5530)) q_s (cpF (I q_image) g 5530)) Q := by
  obtain ⟨J, hJ⟩ : ∃ J, J = va_up (va_up I qR (upd (I qR) 34 (nI 0))) q_aside (cpF g (I q_aside) 5530) := ⟨_, rfl⟩
  have hJ1 : ∀ p, p ≠ q_aside → p ≠ qR → J p = I p := fun p h1 h2 => by rw [hJ, va_up_off h1, va_up_off h2]
  have hJa : J q_aside = cpF g (I q_aside) 5530 := by rw [hJ, va_up_same]
  have hJr : J qR = upd (I qR) 34 (nI 0) := by rw [hJ, va_up_off (by decide), va_up_same]
  rw [← hJ]
  have hCJ : RfC J := by
    obtain ⟨h1, h2, h3⟩ := hC
    refine ⟨fun j hj => ?_, fun j hj => ?_, fun j hj => ?_⟩
    · rw [hJ1 _ (by decide) (by decide)]; exact h1 j hj
    · rw [hJ1 _ (by decide) (by decide)]; exact h2 j hj
    · rw [hJ1 _ (by decide) (by decide)]; exact h3 j hj
  have hB1 : InvB (cpF (I q_image) g 5530) := InvB_eq cpF_lt hB
  have hT1 : InvT (cpF (I q_image) g 5530) := InvT_eq cpF_lt hB hT
  have hd1 : vN (cpF (I q_image) g 5530) 8 ≤ 1999 := by rw [vN_eq (cpF_lt 8 (by omega))]; exact hd
  refine l2_X12_check hZ hCJ hB1 hT1 hn hd1 (fun I' hI' hr => ?_) (n + 1) 0 J (fun _ _ _ _ => rfl) (fun j hj => absurd hj (by omega)) (by omega) (by omega)
  have ea : I' q_aside = cpF g (I q_aside) 5530 := (hI' _ (by decide) (by decide) (by decide)).trans hJa
  have ew : I' q_waits = I q_waits := (hI' _ (by decide) (by decide) (by decide)).trans (hJ1 _ (by decide) (by decide))
  have hfar : ∀ j, 5530 ≤ j → gDays (cpF (I q_image) g 5530) n j = g j := fun j hj => (gDays_far hB1 hT1 hj n (by omega)).trans (if_neg (by omega))
  have hq2 := hq I' (fun p h1 h2 h3 h4 h5 => (hI' p h1 h2 h3).trans (hJ1 p h4 h5)) ((hI' _ (by decide) (by decide) (by decide)).trans hJr)
  rw [← ew] at hq2
  refine x_ald0 (n := 147) dX12_check_146 rfl ?_
  refine x_ald0 (n := 148) dX12_check_147 rfl ?_
  refine x_getR (n := 151) flX12_16 rfl dX12_check_148 rfl (rK hZ) (rP_aside hZ) ?_
  refine x_ald0 (n := 152) dX12_check_151 rfl ?_
  refine x_getR (n := 155) flX12_7 rfl dX12_check_152 rfl (rK hZ) (rP_s hZ) ?_
  refine x_cV2 (n := 158) (d' := 0) zcX12_setAside mlX12_370 dX12_check_155 rfl (rK hZ) (Nat.le_of_ble_eq_true rfl) (Nat.le_of_ble_eq_true rfl) ?_
  refine c_X12_setAside (rA_aside hZ) (rA_s hZ) (by decide) ?_
  rw [va_up_same, va_up_off (show q_aside ≠ q_s by decide), ea, va_up_2, cpF_cp (k := g) hfar]
  refine x_none ?_
  refine x_ic0 (n := 159) dX12_check_158 rfl ?_
  refine x_ist3 (n := 160) dX12_check_159 rfl (by decide) rfl ?_
  exact l3_X12_check hZ hn hw2 hr (min w (2 * n)) 0 (by omega) hq2
theorem c_X12_check (hZ : ShR Z) (hC : RfC I) {x : Int32} {w : Nat} (hw : I qR 34 = nI w) (hw2 : w ≤ 60) (hI : I qR 3 ≠ 0 → InvB (I q_image) ∧ InvT (I q_image) ∧ vN (I q_image) 8 ≤ 1999)
    (hq : ∀ I' : zI, offK I I' → I' qR = upd (I qR) 34 (nI 0) → Q (some (.int (f_check (I q_image) g (I q_waits) (I qR 3) w x))) Z (va_up I' q_s g)) : zM l G mX12_check 6 0 0 [.ref qR, .int x] Z (va_up I q_s g) Q := by
  refine x_entry [some (.ref qR), some (.int x), none, none, none] 3 rfl rfl (Nat.le_of_ble_eq_true rfl) ?_
  unfold f_check at hq
  have o0 : offK I (va_up I qR (upd (I qR) 34 (nI 0))) := fun p _ _ _ _ h => va_up_off h
  refine x_ald0 (n := 1) dX12_check_0 rfl ?_
  refine x_rget (n := 4) flX12_361 rfl dX12_check_1 rfl hZ ?_
  rw [hw]
  refine x_ist2 (n := 5) dX12_check_4 rfl (by decide) rfl ?_
  refine x_ald0 (n := 6) dX12_check_5 rfl ?_
  refine x_ic0 (n := 7) dX12_check_6 rfl ?_
  refine x_rput (n := 10) flX12_361 rfl rfl rfl rfl dX12_check_7 rfl hZ ?_
  refine x_ild1 (n := 11) dX12_check_10 rfl ?_
  refine x_i2l (n := 12) dX12_check_11 rfl ?_
  refine x_lconst (n := 13) (v := 1) dX12_check_12 rfl (by decide) ?_
  refine x_ldc2 (n := 16) dX12_check_13 rfl klX12_364 ?_
  refine x_cS3 (n := 19) (d' := 0) zcX12_isIn mlX12_89 dX12_check_16 rfl (Nat.le_of_ble_eq_true rfl) (Nat.le_of_ble_eq_true rfl) ?_
  refine c_X12_isIn (zin x 1 30) (by unfold zin; rw [zI64]; rfl) ?_
  refine x_some ?_
  refine x_zif_ne (n := 22) (tgt := 25) dX12_check_19 rfl (by decide) (fun c_19 => ?_) (fun c_19 => ?_)
  · rw [if_pos c_19] at hq
    refine x_ald0 (n := 26) dX12_check_25 rfl ?_
    refine x_rget (n := 29) flX12_366 rfl dX12_check_26 rfl hZ ?_
    rw [va_up_same, upd_off (by omega)]
    refine x_if_ne (n := 32) (tgt := 35) dX12_check_29 rfl (by decide) (fun c_29 => ?_) (fun c_29 => ?_)
    · rw [if_neg c_29] at hq
      obtain ⟨n, hn, hn1, hn2, rfl⟩ := z_numL 31 c_19 (by omega) (by omega)
      rw [ix_nI (by omega)] at hq
      obtain ⟨hB, hT, hd⟩ := hI c_29
      refine x_ald0 (n := 36) dX12_check_35 rfl ?_
      refine x_ald0 (n := 37) dX12_check_36 rfl ?_
      refine x_getR (n := 40) flX12_7 rfl dX12_check_37 rfl (rK hZ) (rP_s hZ) ?_
      refine x_ald0 (n := 41) dX12_check_40 rfl ?_
      refine x_getR (n := 44) flX12_16 rfl dX12_check_41 rfl (rK hZ) (rP_aside hZ) ?_
      refine x_cV2 (n := 47) (d' := 0) zcX12_setAside mlX12_370 dX12_check_44 rfl (rK hZ) (Nat.le_of_ble_eq_true rfl) (Nat.le_of_ble_eq_true rfl) ?_
      refine c_X12_setAside (rA_s hZ) (rA_aside hZ) (by decide) ?_
      rw [va_up_same, va_up_off (show q_aside ≠ q_s by decide), va_up_off (show q_aside ≠ qR by decide), va_up_sw _ (show q_s ≠ q_aside by decide)]
      refine x_none ?_
      refine x_ald0 (n := 48) dX12_check_47 rfl ?_
      refine x_ald0 (n := 49) dX12_check_48 rfl ?_
      refine x_getR (n := 52) flX12_13 rfl dX12_check_49 rfl (rK hZ) (rP_image hZ) ?_
      refine x_ald0 (n := 53) dX12_check_52 rfl ?_
      refine x_getR (n := 56) flX12_7 rfl dX12_check_53 rfl (rK hZ) (rP_s hZ) ?_
      refine x_cV2 (n := 59) (d' := 0) zcX12_setAside mlX12_370 dX12_check_56 rfl (rK hZ) (Nat.le_of_ble_eq_true rfl) (Nat.le_of_ble_eq_true rfl) ?_
      refine c_X12_setAside (rA_image hZ) (rA_s hZ) (by decide) ?_
      rw [va_up_same, va_up_off (show q_image ≠ q_s by decide), va_up_off (show q_image ≠ q_aside by decide), va_up_off (show q_image ≠ qR by decide), va_up_2]
      refine x_none ?_
      refine x_ic0 (n := 60) dX12_check_59 rfl ?_
      refine x_ist3 (n := 61) dX12_check_60 rfl (by decide) rfl ?_
      exact l5_X12_check hZ hC hw2 (by omega) hB hT hd hq
    · refine x_ldc (n := 34) dX12_check_32 rfl kiX12_101 ?_
      refine r_iret dX12_check_34 rfl ?_
      rw [if_pos c_29] at hq
      exact hq _ o0 va_up_same
  · refine x_ldc (n := 24) dX12_check_22 rfl kiX12_100 ?_
    refine r_iret dX12_check_24 rfl ?_
    rw [if_neg (by grind)] at hq
    exact hq _ o0 va_up_same
end
