/-! ===== the tape ===== -/
def fdB (v : Int32) (j : Nat) : Int32 := (v >>> (nI (24 - 8 * j) &&& 31)) &&& nI 255
def fdV (a b c : Int32) (k : Nat) : Int32 := if k < 4 then a else if k < 8 then b else c
def tpF (f : Nat → Int32) (t : Nat) (a b c : Int32) (k : Nat) : Nat → Int32 := fun j => if t ≤ j ∧ j < t + k then fdB (fdV a b c (j - t)) ((j - t) % 4) else f j
section
variable {l : Launch} {G : zG} {Z : zS} {I : zI} {g : Nat → Int32} {Q : Option Value → zS → zI → Prop}
theorem tpF_0 (f : Nat → Int32) (t : Nat) (a b c : Int32) : tpF f t a b c 0 = f := by funext j; unfold tpF; rw [if_neg (by omega)]
theorem tpF_s (f : Nat → Int32) (t : Nat) (a b c : Int32) (k : Nat) : upd (tpF f t a b c k) (t + k) (fdB (fdV a b c k) (k % 4)) = tpF f t a b c (k + 1) := by
  funext j
  unfold upd
  by_cases e : j = t + k
  · subst e; rw [if_pos rfl]; unfold tpF; rw [if_pos (by omega), show t + k - t = k by omega]
  · rw [if_neg e]
    unfold tpF
    by_cases h2 : t ≤ j ∧ j < t + k
    · rw [if_pos h2, if_pos (by omega)]
    · rw [if_neg h2, if_neg (by omega)]
def tpI (I : zI) (t : Nat) (a b c : Int32) (k : Nat) : zI := va_up (va_up I q_tape (tpF (I q_tape) t a b c k)) qR (upd (I qR) 15 (nI (t + k)))
theorem tpI_s (I : zI) (t : Nat) (a b c : Int32) (k : Nat) : va_up (va_up (tpI I t a b c k) q_tape (upd (tpI I t a b c k q_tape) (t + k) (fdB (fdV a b c k) (k % 4)))) qR (upd (va_up (tpI I t a b c k) q_tape (upd (tpI I t a b c k q_tape) (t + k) (fdB (fdV a b c k) (k % 4))) qR) 15 (nI (t + k + 1))) = tpI I t a b c (k + 1) := by
  have e1 : tpI I t a b c k q_tape = tpF (I q_tape) t a b c k := by unfold tpI; rw [va_up_off (by decide), va_up_same]
  have e2 : tpI I t a b c k qR = upd (I qR) 15 (nI (t + k)) := by unfold tpI; rw [va_up_same]
  rw [va_up_off (show qR ≠ q_tape by decide), e1, e2, tpF_s, upd_2]
  unfold tpI
  rw [va_up_sw _ (show qR ≠ q_tape by decide), va_up_2, va_up_2]
  rfl
theorem l_X12_feed (hZ : ShR Z) {t : Nat} {a b c : Int32} (ht : t + 12 ≤ 96) (hq : Q (some (.int (nI (t + 12)))) Z (va_up (tpI I t a b c 12) q_s g)) : ∀ m k, k ≤ 12 → 12 - k < m → zX l G mX12_feed 0 0 0 18 [some (.ref qR), some (.int a), some (.int b), some (.int c), some (.int (nI k)), none] [] Z (va_up (tpI I t a b c k) q_s g) Q := by
  intro m
  induction m with
  | zero => intro k _ h; exact absurd h (by omega)
  | succ m ih =>
    intro k hk hm
    have eR : tpI I t a b c k qR 15 = nI (t + k) := by unfold tpI; rw [va_up_same, upd_same]
    by_cases hk12 : k = 12
    · subst hk12
      refine x_ild4 (n := 20) dX12_feed_18 rfl ?_
      refine x_bipush (n := 22) (v := nI 12) dX12_feed_20 rfl (by decide) ?_
      refine x_icmpN_ge (n := 25) (tgt := 91) dX12_feed_22 rfl (by decide) (by omega) (by omega) (fun c_22 => ?_) (fun c_22 => ?_)
      · refine x_ald0 (n := 92) dX12_feed_91 rfl ?_
        refine x_rget (n := 95) flX12_214 rfl dX12_feed_92 rfl hZ ?_
        rw [eR]
        refine r_iret dX12_feed_95 rfl ?_
        exact hq
      · exact absurd c_22 (by omega)
    · have fin : zX l G mX12_feed 0 0 0 49 [some (.ref qR), some (.int a), some (.int b), some (.int c), some (.int (nI k)), some (.int (fdV a b c k))] [] Z (va_up (tpI I t a b c k) q_s g) Q := by
        have hm4 : k % 4 < 4 := Nat.mod_lt _ (by omega)
        refine x_ald0 (n := 50) dX12_feed_49 rfl ?_
        refine x_getR (n := 53) flX12_49 rfl dX12_feed_50 rfl (rK hZ) (rP_tape hZ) ?_
        refine x_ald0 (n := 54) dX12_feed_53 rfl ?_
        refine x_rget (n := 57) flX12_214 rfl dX12_feed_54 rfl hZ ?_
        rw [eR]
        refine x_ild5 (n := 59) dX12_feed_57 rfl ?_
        refine x_bipush (n := 61) (v := nI 24) dX12_feed_59 rfl (by decide) ?_
        refine x_bipush (n := 63) (v := nI 8) dX12_feed_61 rfl (by decide) ?_
        refine x_ild4 (n := 65) dX12_feed_63 rfl ?_
        refine x_ic4 (n := 66) dX12_feed_65 rfl ?_
        refine x_irem (n := 67) dX12_feed_66 rfl (by decide) ?_
        rw [pk_rem (by omega) (by omega) (by omega)]
        refine x_imul (n := 68) dX12_feed_67 rfl ?_
        rw [pk_mul]
        refine x_isub (n := 69) dX12_feed_68 rfl ?_
        rw [pk_sub (by omega)]
        refine x_ishr (n := 70) dX12_feed_69 rfl ?_
        refine x_sipush (n := 73) (v := nI 255) dX12_feed_70 rfl (by decide) ?_
        refine x_iand (n := 74) dX12_feed_73 rfl ?_
        refine x_ost (n := 75) dX12_feed_74 rfl (rA_tape hZ) (by decide) (Nat.le_of_ble_eq_true rfl) (by omega) ?_
        refine x_ald0 (n := 76) dX12_feed_75 rfl ?_
        refine x_dup (n := 77) dX12_feed_76 rfl rfl ?_
        refine x_rget (n := 80) flX12_214 rfl dX12_feed_77 rfl hZ ?_
        rw [va_up_off (show qR ≠ q_tape by decide), eR]
        refine x_ic1 (n := 81) dX12_feed_80 rfl ?_
        refine x_iaddN (n := 82) dX12_feed_81 rfl ?_
        refine x_rput (n := 85) flX12_214 rfl rfl rfl rfl dX12_feed_82 rfl hZ ?_
        refine x_iincN4 (n := 88) (k := 1) dX12_feed_85 rfl (by decide) rfl ?_
        refine x_goto (n := 18) dX12_feed_88 (by decide) ?_
        have e := tpI_s I t a b c k
        unfold fdB at e
        rw [e]
        exact x_fg5 (ih (k + 1) (by omega) (by omega))
      unfold fdV at fin
      refine x_ild4 (n := 20) dX12_feed_18 rfl ?_
      refine x_bipush (n := 22) (v := nI 12) dX12_feed_20 rfl (by decide) ?_
      refine x_icmpN_ge (n := 25) (tgt := 91) dX12_feed_22 rfl (by decide) (by omega) (by omega) (fun c_22 => ?_) (fun c_22 => ?_)
      · exact absurd c_22 (by omega)
      · refine x_ild4 (n := 27) dX12_feed_25 rfl ?_
        refine x_ic4 (n := 28) dX12_feed_27 rfl ?_
        refine x_icmpN_ge (n := 31) (tgt := 35) dX12_feed_28 rfl (by decide) (by omega) (by omega) (fun c_28 => ?_) (fun c_28 => ?_)
        · refine x_ild4 (n := 37) dX12_feed_35 rfl ?_
          refine x_bipush (n := 39) (v := nI 8) dX12_feed_37 rfl (by decide) ?_
          refine x_icmpN_ge (n := 42) (tgt := 46) dX12_feed_39 rfl (by decide) (by omega) (by omega) (fun c_39 => ?_) (fun c_39 => ?_)
          · refine x_ild3 (n := 47) dX12_feed_46 rfl ?_
            refine x_ist5 (n := 49) dX12_feed_47 rfl (by decide) rfl ?_
            first | (rw [if_pos (by omega)] at fin; exact fin) | (rw [if_neg (by omega), if_pos (by omega)] at fin; exact fin) | (rw [if_neg (by omega), if_neg (by omega)] at fin; exact fin)
          · refine x_ild2 (n := 43) dX12_feed_42 rfl ?_
            refine x_goto (n := 47) dX12_feed_43 (by decide) ?_
            refine x_ist5 (n := 49) dX12_feed_47 rfl (by decide) rfl ?_
            first | (rw [if_pos (by omega)] at fin; exact fin) | (rw [if_neg (by omega), if_pos (by omega)] at fin; exact fin) | (rw [if_neg (by omega), if_neg (by omega)] at fin; exact fin)
        · refine x_ild1 (n := 32) dX12_feed_31 rfl ?_
          refine x_goto (n := 47) dX12_feed_32 (by decide) ?_
          refine x_ist5 (n := 49) dX12_feed_47 rfl (by decide) rfl ?_
          first | (rw [if_pos (by omega)] at fin; exact fin) | (rw [if_neg (by omega), if_pos (by omega)] at fin; exact fin) | (rw [if_neg (by omega), if_neg (by omega)] at fin; exact fin)
theorem c_X12_feed (hZ : ShR Z) {t : Nat} {a b c : Int32} (ht : I qR 15 = nI t) (ht2 : t ≤ 96) (hq : Q (some (.int (if t + 12 ≤ 96 then nI (t + 12) else -1000000003))) Z (va_up (if t + 12 ≤ 96 then tpI I t a b c 12 else I) q_s g)) : zM l G mX12_feed 0 0 0 [.ref qR, .int a, .int b, .int c] Z (va_up I q_s g) Q := by
  refine x_entry [some (.ref qR), some (.int a), some (.int b), some (.int c), none, none] 2 rfl rfl (Nat.le_of_ble_eq_true rfl) ?_
  refine x_ald0 (n := 1) dX12_feed_0 rfl ?_
  refine x_rget (n := 4) flX12_214 rfl dX12_feed_1 rfl hZ ?_
  rw [ht]
  refine x_bipush (n := 6) (v := nI 12) dX12_feed_4 rfl (by decide) ?_
  refine x_iaddN (n := 7) dX12_feed_6 rfl ?_
  refine x_bipush (n := 9) (v := nI 96) dX12_feed_7 rfl (by decide) ?_
  refine x_icmpN_le (n := 12) (tgt := 15) dX12_feed_9 rfl (by decide) (by omega) (by omega) (fun c_9 => ?_) (fun c_9 => ?_)
  · rw [if_pos (by omega), if_pos (by omega)] at hq
    refine x_ic0 (n := 16) dX12_feed_15 rfl ?_
    refine x_ist4 (n := 18) dX12_feed_16 rfl (by decide) rfl ?_
    have h := l_X12_feed (l := l) (G := G) (a := a) (b := b) (c := c) hZ (by omega) hq 13 0 (by omega) (by omega)
    have e : tpI I t a b c 0 = I := by
      have eu : upd (I qR) 15 (nI (t + 0)) = I qR := by
        funext j
        by_cases hj : j = 15
        · subst hj; rw [upd_same]; exact ht.symm
        · exact upd_off hj
      unfold tpI
      rw [tpF_0, va_up_id, eu, va_up_id]
    rw [e] at h
    exact h
  · refine x_ldc (n := 14) dX12_feed_12 rfl kiX12_149 ?_
    refine r_iret dX12_feed_14 rfl ?_
    rw [if_neg (by omega), if_neg (by omega)] at hq; exact hq
theorem c_X12_trim (hZ : ShR Z) {t : Nat} {x : Int32} (ht : I qR 15 = nI t) (ht2 : t ≤ 96) (hq : Q (some (.int (if zin x 0 t = true then x else -1000000001))) Z (va_up (if zin x 0 t = true then va_up I qR (upd (I qR) 15 x) else I) q_s g)) : zM l G mX12_trim 1 0 0 [.ref qR, .int x] Z (va_up I q_s g) Q := by
  refine x_entry [some (.ref qR), some (.int x)] 0 rfl rfl (Nat.le_of_ble_eq_true rfl) ?_
  refine x_ild1 (n := 1) dX12_trim_0 rfl ?_
  refine x_i2l (n := 2) dX12_trim_1 rfl ?_
  refine x_lconst (n := 3) (v := 0) dX12_trim_2 rfl (by decide) ?_
  refine x_ald0 (n := 4) dX12_trim_3 rfl ?_
  refine x_rget (n := 7) flX12_214 rfl dX12_trim_4 rfl hZ ?_
  rw [ht]
  refine x_i2l (n := 8) dX12_trim_7 rfl ?_
  refine x_cS3 (n := 11) (d' := 0) zcX12_isIn mlX12_89 dX12_trim_8 rfl (Nat.le_of_ble_eq_true rfl) (Nat.le_of_ble_eq_true rfl) ?_
  refine c_X12_isIn (zin x 0 t) (by unfold zin; simp only [zI64]; rw [nI_toInt (by omega)]; rfl) ?_
  refine x_some ?_
  refine x_zif_ne (n := 14) (tgt := 17) dX12_trim_11 rfl (by decide) (fun c_11 => ?_) (fun c_11 => ?_)
  · refine x_ald0 (n := 18) dX12_trim_17 rfl ?_
    refine x_ild1 (n := 19) dX12_trim_18 rfl ?_
    refine x_rput (n := 22) flX12_214 rfl rfl rfl rfl dX12_trim_19 rfl hZ ?_
    refine x_ild1 (n := 23) dX12_trim_22 rfl ?_
    refine r_iret dX12_trim_23 rfl ?_
    rw [if_pos c_11, if_pos c_11] at hq; exact hq
  · refine x_ldc (n := 16) dX12_trim_14 rfl kiX12_100 ?_
    refine r_iret dX12_trim_16 rfl ?_
    rw [if_neg (by rw [c_11]; decide), if_neg (by rw [c_11]; decide)] at hq; exact hq
end
