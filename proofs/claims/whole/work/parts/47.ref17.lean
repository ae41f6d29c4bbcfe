/-- the surveys: sorts, sizes, numbers -/
abbrev svS := (Nat → Int32) × (Nat → Int32) × (Nat → Int32)
def sv (I : zI) : svS := (I q_tSort, I q_tSize, I q_tNumber)
def svP (I : zI) (t : svS) : zI := va_up (va_up (va_up I q_tSort t.1) q_tSize t.2.1) q_tNumber t.2.2
def svOK (t : svS) : Prop := ∀ j, j < 4 → rg (t.1 j) (-1) 1 ∧ rg (t.2.1 j) 0 24
def rzF (f : Nat → Int32) (b k : Nat) : Nat → Int32 := fun j => if b ≤ j ∧ j < b + k then nI 0 else f j
def f_survey (t : svS) (x y n : Int32) : Int32 × svS := if zin x 0 3 = true ∧ zin y (-1) 1 = true ∧ (y < 0 ∨ n ≤ nI 24) then (if 0 ≤ y ∧ n < 0 then (-1000000014, t) else (if y < 0 then nI 0 else n, (upd t.1 (ix x) y, upd t.2.1 (ix x) (if y < 0 then nI 0 else n), rzF t.2.2 (24 * ix x) 24))) else (-1000000001, t)
def lackF (t : svS) (x p : Int32) : Int32 := if zin x 0 3 = true then (if t.1 (ix x) < 0 then -1000000011 else if zin p 0 ((t.2.1 (ix x)).toInt - 1) = true then nI 0 else -1000000013) else -1000000001
def f_note (t : svS) (x p v : Int32) : Int32 × svS := if lackF t x p = 0 then (if t.1 (ix x) = nI 1 ∧ v = -1000000005 then (-1000000012, t) else if t.1 (ix x) = 0 ∧ v ≠ -1000000005 ∧ zin v (-100000) 100000 = false then (-1000000001, t) else (nI 1, (t.1, t.2.1, upd t.2.2 (24 * ix x + ix p) (if t.1 (ix x) = nI 1 then v <<< (nI 16 &&& 31) >>> (nI 16 &&& 31) else v)))) else (lackF t x p, t)
def cpF (f h : Nat → Int32) (n : Nat) : Nat → Int32 := fun j => if j < n then f j else h j
def g_slip5 (g : Nat → Int32) (w : Nat) : Bool := decide (g (120 + 10 * w) = nI 5)
def countN (g : Nat → Int32) (waiting taped : Int32) : Nat → Int32
  | 0 => g 0
  | 1 => g 1
  | 2 => nI (zct (gThr g) (vN g 1))
  | 3 => nI (zct (g_slip5 g) (vN g 1))
  | 4 => g 2
  | 5 => g 3
  | 6 => g 4
  | 7 => g 5
  | 8 => g 6
  | 9 => g 7
  | 10 => g 9
  | 11 => g 10
  | 12 => waiting
  | 13 => taped
  | 14 => g 8
  | _ => -1000000001
def f_count (g : Nat → Int32) (waiting taped x : Int32) : Int32 := if zin x 0 14 = true then countN g waiting taped (ix x) else -1000000001
section
variable {l : Launch} {G : zG} {Z : zS} {I : zI} {g : Nat → Int32} {Q : Option Value → zS → zI → Prop}
theorem svP_id : svP I (sv I) = I := by
  unfold svP sv
  rw [va_up_id, va_up_id, va_up_id]
theorem c_X12_isSurvey {x : Int32} (hq : Q (some (.int (zb (zin x 0 3)))) Z I) : zM l G mX12_isSurvey 1 0 0 [.int x] Z I Q := by
  refine x_entry [some (.int x)] 0 rfl rfl (Nat.le_of_ble_eq_true rfl) ?_
  refine x_ild0 (n := 1) dX12_isSurvey_0 rfl ?_
  refine x_i2l (n := 2) dX12_isSurvey_1 rfl ?_
  refine x_lconst (n := 3) (v := 0) dX12_isSurvey_2 rfl (by decide) ?_
  refine x_ldc2 (n := 6) dX12_isSurvey_3 rfl klX12_106 ?_
  refine x_cS3 (n := 9) (d' := 0) zcX12_isIn mlX12_89 dX12_isSurvey_6 rfl (Nat.le_of_ble_eq_true rfl) (Nat.le_of_ble_eq_true rfl) ?_
  refine c_X12_isIn (zin x 0 3) (by unfold zin; rw [zI64]; rfl) ?_
  refine x_some ?_
  refine r_zret dX12_isSurvey_9 rfl (by first | exact nar0 | exact nar1 | exact zb_nar _) ?_
  exact hq
theorem rzF_0 (f : Nat → Int32) (b : Nat) : rzF f b 0 = f := by
  funext j; unfold rzF; rw [if_neg (by omega)]
theorem rzF_s (f : Nat → Int32) (b k : Nat) : upd (rzF f b k) (b + k) (nI 0) = rzF f b (k + 1) := by
  funext j
  unfold rzF upd
  by_cases h : j = b + k
  · rw [if_pos h, if_pos (by omega)]
  · rw [if_neg h]
    show (if b ≤ j ∧ j < b + k then nI 0 else f j) = _
    by_cases h2 : b ≤ j ∧ j < b + k
    · rw [if_pos h2, if_pos (by omega)]
    · rw [if_neg h2, if_neg (by omega)]
theorem l_X12_survey (hZ : ShR Z) {c : Nat} {y n : Int32} {f : Nat → Int32} (hc : c < 4) (hq : Q (some (.int (I q_tSize c))) Z (va_up (va_up I q_tNumber (rzF f (24 * c) 24)) q_s g)) : ∀ m k, k ≤ 24 → 24 - k < m → zX l G mX12_survey 2 0 0 69 [some (.ref qR), some (.int (nI c)), some (.int y), some (.int n), some (.int (nI k))] [] Z (va_up (va_up I q_tNumber (rzF f (24 * c) k)) q_s g) Q := by
  intro m
  induction m with
  | zero => intro k _ h; exact absurd h (by omega)
  | succ m ih =>
    intro k hk hm
    refine x_ild4 (n := 71) dX12_survey_69 rfl ?_
    refine x_bipush (n := 73) (v := nI 24) dX12_survey_71 rfl (by decide) ?_
    refine x_icmpN_ge (n := 76) (tgt := 95) dX12_survey_73 rfl (by decide) (by omega) (by omega) (fun c_73 => ?_) (fun c_73 => ?_)
    · refine x_ald0 (n := 96) dX12_survey_95 rfl ?_
      refine x_getR (n := 99) flX12_22 rfl dX12_survey_96 rfl (rK hZ) (rP_tSize hZ) ?_
      refine x_ild1 (n := 100) dX12_survey_99 rfl ?_
      refine x_old (n := 101) dX12_survey_100 rfl (rA_tSize hZ) (by decide) (Nat.le_of_ble_eq_true rfl) (by omega) ?_
      rw [va_up_off (by decide)]
      refine r_iret dX12_survey_101 rfl ?_
      rw [show k = 24 by omega]; exact hq
    · refine x_ald0 (n := 77) dX12_survey_76 rfl ?_
      refine x_getR (n := 80) flX12_25 rfl dX12_survey_77 rfl (rK hZ) (rP_tNumber hZ) ?_
      refine x_bipush (n := 82) (v := nI 24) dX12_survey_80 rfl (by decide) ?_
      refine x_ild1 (n := 83) dX12_survey_82 rfl ?_
      refine x_imulN (n := 84) dX12_survey_83 rfl ?_
      refine x_ild4 (n := 86) dX12_survey_84 rfl ?_
      refine x_iaddN (n := 87) dX12_survey_86 rfl ?_
      refine x_ic0 (n := 88) dX12_survey_87 rfl ?_
      refine x_ost (n := 89) dX12_survey_88 rfl (rA_tNumber hZ) (by decide) (Nat.le_of_ble_eq_true rfl) (by omega) ?_
      refine x_iincN4 (n := 92) (k := 1) dX12_survey_89 rfl (by decide) rfl ?_
      refine x_goto (n := 69) dX12_survey_92 (by decide) ?_
      rw [va_up_same, va_up_2, rzF_s]
      exact ih (k + 1) (by omega) (by omega)
theorem c_X12_survey (hZ : ShR Z) {x y n : Int32} (hq : Q (some (.int (f_survey (sv I) x y n).1)) Z (va_up (svP I (f_survey (sv I) x y n).2) q_s g)) : zM l G mX12_survey 2 0 0 [.ref qR, .int x, .int y, .int n] Z (va_up I q_s g) Q := by
  refine x_entry [some (.ref qR), some (.int x), some (.int y), some (.int n), none] 1 rfl rfl (Nat.le_of_ble_eq_true rfl) ?_
  unfold f_survey at hq
  have bad : ¬ (zin x 0 3 = true ∧ zin y (-1) 1 = true ∧ (y < 0 ∨ n ≤ nI 24)) → Q (some (.int (-1000000001))) Z (va_up I q_s g) := by
    intro h
    rw [if_neg h] at hq
    have := hq
    rw [svP_id] at this
    exact this
  have size : (zin x 0 3 = true ∧ zin y (-1) 1 = true ∧ (y < 0 ∨ n ≤ nI 24)) → (0 ≤ y ∧ n < 0) → Q (some (.int (-1000000014))) Z (va_up I q_s g) := by
    intro h h2
    rw [if_pos h, if_pos h2] at hq
    have := hq
    rw [svP_id] at this
    exact this
  have end2 : ∀ {c : Nat} (J : zI), c < 4 → Q (some (.int (va_up J q_tNumber (rzF (J q_tNumber) (24 * c) 24) q_tSize c))) Z (va_up (va_up J q_tNumber (rzF (J q_tNumber) (24 * c) 24)) q_s g) → zX l G mX12_survey 2 0 0 69 [some (.ref qR), some (.int (nI c)), some (.int y), some (.int n), some (.int (nI 0))] [] Z (va_up J q_s g) Q := by
    intro c J hc h
    rw [va_up_off (show q_tSize ≠ q_tNumber by decide)] at h
    have := l_X12_survey (l := l) (G := G) (Q := Q) (I := J) (y := y) (n := n) hZ hc h 25 0 (by omega) (by omega)
    rw [rzF_0, va_up_id] at this
    exact this
  by_cases hx : zin x 0 3 = true
  · by_cases hy : zin y (-1) 1 = true
    · obtain ⟨c, hc, hc2, rfl⟩ := z_num 4 hx (by omega)
      by_cases hy0 : y < 0
      · rw [if_pos ⟨hx, hy, Or.inl hy0⟩, if_neg (fun h => Int32.not_lt.mpr h.1 hy0), ix_nI (by omega)] at hq
        simp only [if_pos hy0] at hq
        refine x_ild1 (n := 1) dX12_survey_0 rfl ?_
        refine x_cS1 (n := 4) (d' := 1) zcX12_isSurvey mlX12_343 dX12_survey_1 rfl (Nat.le_of_ble_eq_true rfl) (Nat.le_of_ble_eq_true rfl) ?_
        refine c_X12_isSurvey ?_
        refine x_some ?_
        refine x_zif_eq (n := 7) (tgt := 29) dX12_survey_4 rfl (by decide) (fun c_4 => ?_) (fun c_4 => ?_)
        · rw [hx] at c_4; cases c_4
        · refine x_ild2 (n := 8) dX12_survey_7 rfl ?_
          refine x_i2l (n := 9) dX12_survey_8 rfl ?_
          refine x_ldc2 (n := 12) dX12_survey_9 rfl klX12_346 ?_
          refine x_lconst (n := 13) (v := 1) dX12_survey_12 rfl (by decide) ?_
          refine x_cS3 (n := 16) (d' := 0) zcX12_isIn mlX12_89 dX12_survey_13 rfl (Nat.le_of_ble_eq_true rfl) (Nat.le_of_ble_eq_true rfl) ?_
          refine c_X12_isIn (zin y (-1) 1) (by unfold zin; rw [zI64]; rfl) ?_
          refine x_some ?_
          refine x_zif_eq (n := 19) (tgt := 29) dX12_survey_16 rfl (by decide) (fun c_16 => ?_) (fun c_16 => ?_)
          · rw [hy] at c_16; cases c_16
          · refine x_ild2 (n := 20) dX12_survey_19 rfl ?_
            refine x_if_lt (n := 23) (tgt := 32) dX12_survey_20 rfl (by decide) (fun c_20 => ?_) (fun c_20 => ?_)
            · refine x_ild2 (n := 33) dX12_survey_32 rfl ?_
              refine x_if_lt (n := 36) (tgt := 44) dX12_survey_33 rfl (by decide) (fun c_33 => ?_) (fun c_33 => ?_)
              · refine x_ald0 (n := 45) dX12_survey_44 rfl ?_
                refine x_getR (n := 48) flX12_19 rfl dX12_survey_45 rfl (rK hZ) (rP_tSort hZ) ?_
                refine x_ild1 (n := 49) dX12_survey_48 rfl ?_
                refine x_ild2 (n := 50) dX12_survey_49 rfl ?_
                refine x_ost (n := 51) dX12_survey_50 rfl (rA_tSort hZ) (by decide) (Nat.le_of_ble_eq_true rfl) (by omega) ?_
                refine x_ald0 (n := 52) dX12_survey_51 rfl ?_
                refine x_getR (n := 55) flX12_22 rfl dX12_survey_52 rfl (rK hZ) (rP_tSize hZ) ?_
                refine x_ild1 (n := 56) dX12_survey_55 rfl ?_
                refine x_ild2 (n := 57) dX12_survey_56 rfl ?_
                refine x_if_ge (n := 60) (tgt := 64) dX12_survey_57 rfl (by decide) (fun c_57 => ?_) (fun c_57 => ?_)
                · exact absurd hy0 (Int32.not_lt.mpr c_57)
                · refine x_ic0 (n := 61) dX12_survey_60 rfl ?_
                  refine x_goto (n := 65) dX12_survey_61 (by decide) ?_
                  refine x_ost (n := 66) dX12_survey_65 rfl (rA_tSize hZ) (by decide) (Nat.le_of_ble_eq_true rfl) (by omega) ?_
                  refine x_ic0 (n := 67) dX12_survey_66 rfl ?_
                  refine x_ist4 (n := 69) dX12_survey_67 rfl (by decide) rfl ?_
                  refine end2 _ hc ?_
                  rw [va_up_off (show q_tSize ≠ q_tNumber by decide), va_up_same, upd_same, va_up_off (show q_tNumber ≠ q_tSize by decide), va_up_off (show q_tNumber ≠ q_tSort by decide), va_up_off (show q_tSize ≠ q_tSort by decide)]
                  exact hq
              · exact absurd hy0 c_33
            · exact absurd hy0 c_20
      · by_cases hn : n ≤ nI 24
        · by_cases hn0 : n < 0
          · have hs := size ⟨hx, hy, Or.inr hn⟩ ⟨Int32.not_lt.mp hy0, hn0⟩
            refine x_ild1 (n := 1) dX12_survey_0 rfl ?_
            refine x_cS1 (n := 4) (d' := 1) zcX12_isSurvey mlX12_343 dX12_survey_1 rfl (Nat.le_of_ble_eq_true rfl) (Nat.le_of_ble_eq_true rfl) ?_
            refine c_X12_isSurvey ?_
            refine x_some ?_
            refine x_zif_eq (n := 7) (tgt := 29) dX12_survey_4 rfl (by decide) (fun c_4 => ?_) (fun c_4 => ?_)
            · rw [hx] at c_4; cases c_4
            · refine x_ild2 (n := 8) dX12_survey_7 rfl ?_
              refine x_i2l (n := 9) dX12_survey_8 rfl ?_
              refine x_ldc2 (n := 12) dX12_survey_9 rfl klX12_346 ?_
              refine x_lconst (n := 13) (v := 1) dX12_survey_12 rfl (by decide) ?_
              refine x_cS3 (n := 16) (d' := 0) zcX12_isIn mlX12_89 dX12_survey_13 rfl (Nat.le_of_ble_eq_true rfl) (Nat.le_of_ble_eq_true rfl) ?_
              refine c_X12_isIn (zin y (-1) 1) (by unfold zin; rw [zI64]; rfl) ?_
              refine x_some ?_
              refine x_zif_eq (n := 19) (tgt := 29) dX12_survey_16 rfl (by decide) (fun c_16 => ?_) (fun c_16 => ?_)
              · rw [hy] at c_16; cases c_16
              · refine x_ild2 (n := 20) dX12_survey_19 rfl ?_
                refine x_if_lt (n := 23) (tgt := 32) dX12_survey_20 rfl (by decide) (fun c_20 => ?_) (fun c_20 => ?_)
                · exact absurd c_20 hy0
                · refine x_ild3 (n := 24) dX12_survey_23 rfl ?_
                  refine x_bipush (n := 26) (v := nI 24) dX12_survey_24 rfl (by decide) ?_
                  refine x_icmp_le (n := 29) (tgt := 32) dX12_survey_26 rfl (by decide) (fun c_26 => ?_) (fun c_26 => ?_)
                  · refine x_ild2 (n := 33) dX12_survey_32 rfl ?_
                    refine x_if_lt (n := 36) (tgt := 44) dX12_survey_33 rfl (by decide) (fun c_33 => ?_) (fun c_33 => ?_)
                    · exact absurd c_33 hy0
                    · refine x_ild3 (n := 37) dX12_survey_36 rfl ?_
                      refine x_if_ge (n := 40) (tgt := 44) dX12_survey_37 rfl (by decide) (fun c_37 => ?_) (fun c_37 => ?_)
                      · exact absurd hn0 (Int32.not_lt.mpr c_37)
                      · refine x_ldcw (n := 43) dX12_survey_40 rfl kiX12_348 ?_
                        refine r_iret dX12_survey_43 rfl ?_
                        exact hs
                  · exact absurd hn c_26
          · rw [if_pos ⟨hx, hy, Or.inr hn⟩, if_neg (fun h => hn0 h.2), ix_nI (by omega)] at hq
            simp only [if_neg hy0] at hq
            refine x_ild1 (n := 1) dX12_survey_0 rfl ?_
            refine x_cS1 (n := 4) (d' := 1) zcX12_isSurvey mlX12_343 dX12_survey_1 rfl (Nat.le_of_ble_eq_true rfl) (Nat.le_of_ble_eq_true rfl) ?_
            refine c_X12_isSurvey ?_
            refine x_some ?_
            refine x_zif_eq (n := 7) (tgt := 29) dX12_survey_4 rfl (by decide) (fun c_4 => ?_) (fun c_4 => ?_)
            · rw [hx] at c_4; cases c_4
            · refine x_ild2 (n := 8) dX12_survey_7 rfl ?_
              refine x_i2l (n := 9) dX12_survey_8 rfl ?_
              refine x_ldc2 (n := 12) dX12_survey_9 rfl klX12_346 ?_
              refine x_lconst (n := 13) (v := 1) dX12_survey_12 rfl (by decide) ?_
              refine x_cS3 (n := 16) (d' := 0) zcX12_isIn mlX12_89 dX12_survey_13 rfl (Nat.le_of_ble_eq_true rfl) (Nat.le_of_ble_eq_true rfl) ?_
              refine c_X12_isIn (zin y (-1) 1) (by unfold zin; rw [zI64]; rfl) ?_
              refine x_some ?_
              refine x_zif_eq (n := 19) (tgt := 29) dX12_survey_16 rfl (by decide) (fun c_16 => ?_) (fun c_16 => ?_)
              · rw [hy] at c_16; cases c_16
              · refine x_ild2 (n := 20) dX12_survey_19 rfl ?_
                refine x_if_lt (n := 23) (tgt := 32) dX12_survey_20 rfl (by decide) (fun c_20 => ?_) (fun c_20 => ?_)
                · exact absurd c_20 hy0
                · refine x_ild3 (n := 24) dX12_survey_23 rfl ?_
                  refine x_bipush (n := 26) (v := nI 24) dX12_survey_24 rfl (by decide) ?_
                  refine x_icmp_le (n := 29) (tgt := 32) dX12_survey_26 rfl (by decide) (fun c_26 => ?_) (fun c_26 => ?_)
                  · refine x_ild2 (n := 33) dX12_survey_32 rfl ?_
                    refine x_if_lt (n := 36) (tgt := 44) dX12_survey_33 rfl (by decide) (fun c_33 => ?_) (fun c_33 => ?_)
                    · exact absurd c_33 hy0
                    · refine x_ild3 (n := 37) dX12_survey_36 rfl ?_
                      refine x_if_ge (n := 40) (tgt := 44) dX12_survey_37 rfl (by decide) (fun c_37 => ?_) (fun c_37 => ?_)
                      · refine x_ald0 (n := 45) dX12_survey_44 rfl ?_
                        refine x_getR (n := 48) flX12_19 rfl dX12_survey_45 rfl (rK hZ) (rP_tSort hZ) ?_
                        refine x_ild1 (n := 49) dX12_survey_48 rfl ?_
                        refine x_ild2 (n := 50) dX12_survey_49 rfl ?_
                        refine x_ost (n := 51) dX12_survey_50 rfl (rA_tSort hZ) (by decide) (Nat.le_of_ble_eq_true rfl) (by omega) ?_
                        refine x_ald0 (n := 52) dX12_survey_51 rfl ?_
                        refine x_getR (n := 55) flX12_22 rfl dX12_survey_52 rfl (rK hZ) (rP_tSize hZ) ?_
                        refine x_ild1 (n := 56) dX12_survey_55 rfl ?_
                        refine x_ild2 (n := 57) dX12_survey_56 rfl ?_
                        refine x_if_ge (n := 60) (tgt := 64) dX12_survey_57 rfl (by decide) (fun c_57 => ?_) (fun c_57 => ?_)
                        · refine x_ild3 (n := 65) dX12_survey_64 rfl ?_
                          refine x_ost (n := 66) dX12_survey_65 rfl (rA_tSize hZ) (by decide) (Nat.le_of_ble_eq_true rfl) (by omega) ?_
                          refine x_ic0 (n := 67) dX12_survey_66 rfl ?_
                          refine x_ist4 (n := 69) dX12_survey_67 rfl (by decide) rfl ?_
                          refine end2 _ hc ?_
                          rw [va_up_off (show q_tSize ≠ q_tNumber by decide), va_up_same, upd_same, va_up_off (show q_tNumber ≠ q_tSize by decide), va_up_off (show q_tNumber ≠ q_tSort by decide), va_up_off (show q_tSize ≠ q_tSort by decide)]
                          exact hq
                        · exact absurd (Int32.not_lt.mp hy0) c_57
                      · exact absurd (Int32.not_lt.mp hn0) c_37
                  · exact absurd hn c_26
        · have hb := bad (fun h => by rcases h.2.2 with h | h; exact hy0 h; exact hn h)
          refine x_ild1 (n := 1) dX12_survey_0 rfl ?_
          refine x_cS1 (n := 4) (d' := 1) zcX12_isSurvey mlX12_343 dX12_survey_1 rfl (Nat.le_of_ble_eq_true rfl) (Nat.le_of_ble_eq_true rfl) ?_
          refine c_X12_isSurvey ?_
          refine x_some ?_
          refine x_zif_eq (n := 7) (tgt := 29) dX12_survey_4 rfl (by decide) (fun c_4 => ?_) (fun c_4 => ?_)
          · rw [hx] at c_4; cases c_4
          · refine x_ild2 (n := 8) dX12_survey_7 rfl ?_
            refine x_i2l (n := 9) dX12_survey_8 rfl ?_
            refine x_ldc2 (n := 12) dX12_survey_9 rfl klX12_346 ?_
            refine x_lconst (n := 13) (v := 1) dX12_survey_12 rfl (by decide) ?_
            refine x_cS3 (n := 16) (d' := 0) zcX12_isIn mlX12_89 dX12_survey_13 rfl (Nat.le_of_ble_eq_true rfl) (Nat.le_of_ble_eq_true rfl) ?_
            refine c_X12_isIn (zin y (-1) 1) (by unfold zin; rw [zI64]; rfl) ?_
            refine x_some ?_
            refine x_zif_eq (n := 19) (tgt := 29) dX12_survey_16 rfl (by decide) (fun c_16 => ?_) (fun c_16 => ?_)
            · rw [hy] at c_16; cases c_16
            · refine x_ild2 (n := 20) dX12_survey_19 rfl ?_
              refine x_if_lt (n := 23) (tgt := 32) dX12_survey_20 rfl (by decide) (fun c_20 => ?_) (fun c_20 => ?_)
              · exact absurd c_20 hy0
              · refine x_ild3 (n := 24) dX12_survey_23 rfl ?_
                refine x_bipush (n := 26) (v := nI 24) dX12_survey_24 rfl (by decide) ?_
                refine x_icmp_le (n := 29) (tgt := 32) dX12_survey_26 rfl (by decide) (fun c_26 => ?_) (fun c_26 => ?_)
                · exact absurd c_26 hn
                · refine x_ldc (n := 31) dX12_survey_29 rfl kiX12_100 ?_
                  refine r_iret dX12_survey_31 rfl ?_
                  exact hb
    · have hb := bad (fun h => hy h.2.1)
      refine x_ild1 (n := 1) dX12_survey_0 rfl ?_
      refine x_cS1 (n := 4) (d' := 1) zcX12_isSurvey mlX12_343 dX12_survey_1 rfl (Nat.le_of_ble_eq_true rfl) (Nat.le_of_ble_eq_true rfl) ?_
      refine c_X12_isSurvey ?_
      refine x_some ?_
      refine x_zif_eq (n := 7) (tgt := 29) dX12_survey_4 rfl (by decide) (fun c_4 => ?_) (fun c_4 => ?_)
      · rw [hx] at c_4; cases c_4
      · refine x_ild2 (n := 8) dX12_survey_7 rfl ?_
        refine x_i2l (n := 9) dX12_survey_8 rfl ?_
        refine x_ldc2 (n := 12) dX12_survey_9 rfl klX12_346 ?_
        refine x_lconst (n := 13) (v := 1) dX12_survey_12 rfl (by decide) ?_
        refine x_cS3 (n := 16) (d' := 0) zcX12_isIn mlX12_89 dX12_survey_13 rfl (Nat.le_of_ble_eq_true rfl) (Nat.le_of_ble_eq_true rfl) ?_
        refine c_X12_isIn (zin y (-1) 1) (by unfold zin; rw [zI64]; rfl) ?_
        refine x_some ?_
        refine x_zif_eq (n := 19) (tgt := 29) dX12_survey_16 rfl (by decide) (fun c_16 => ?_) (fun c_16 => ?_)
        · refine x_ldc (n := 31) dX12_survey_29 rfl kiX12_100 ?_
          refine r_iret dX12_survey_31 rfl ?_
          exact hb
        · exact absurd c_16 hy
  · have hb := bad (fun h => hx h.1)
    refine x_ild1 (n := 1) dX12_survey_0 rfl ?_
    refine x_cS1 (n := 4) (d' := 1) zcX12_isSurvey mlX12_343 dX12_survey_1 rfl (Nat.le_of_ble_eq_true rfl) (Nat.le_of_ble_eq_true rfl) ?_
    refine c_X12_isSurvey ?_
    refine x_some ?_
    refine x_zif_eq (n := 7) (tgt := 29) dX12_survey_4 rfl (by decide) (fun c_4 => ?_) (fun c_4 => ?_)
    · refine x_ldc (n := 31) dX12_survey_29 rfl kiX12_100 ?_
      refine r_iret dX12_survey_31 rfl ?_
      exact hb
    · exact absurd c_4 hx
theorem zsub1 {x : Int32} (h : 0 ≤ x.toInt) : (x - nI 1).toInt = x.toInt - 1 := by
  have hr := fb_rng0 x
  obtain ⟨n, hn, rfl⟩ := z_of (n := 2147483648) h (by omega)
  rw [nI_toInt (by omega)]
  match n with
  | 0 => decide
  | n + 1 => rw [show nI (n + 1) - nI 1 = nI n from nI_pred n, nI_toInt (by omega)]; omega
theorem cpF_0 (f h : Nat → Int32) : cpF f h 0 = h := by funext j; unfold cpF; rw [if_neg (by omega)]
theorem cpF_s (f h : Nat → Int32) (k : Nat) : upd (cpF f h k) k (f k) = cpF f h (k + 1) := by
  funext j
  unfold upd
  by_cases e : j = k
  · subst e; rw [if_pos rfl]; unfold cpF; rw [if_pos (by omega)]
  · rw [if_neg e]
    unfold cpF
    by_cases h2 : j < k
    · rw [if_pos h2, if_pos (by omega)]
    · rw [if_neg h2, if_neg (by omega)]
theorem c_X12_lacks (hZ : ShR Z) (hS : svOK (sv I)) {x p : Int32} (hq : Q (some (.int (lackF (sv I) x p))) Z (va_up I q_s g)) : zM l G mX12_lacks 2 0 0 [.ref qR, .int x, .int p] Z (va_up I q_s g) Q := by
  refine x_entry [some (.ref qR), some (.int x), some (.int p)] 0 rfl rfl (Nat.le_of_ble_eq_true rfl) ?_
  unfold lackF at hq
  refine x_ild1 (n := 1) dX12_lacks_0 rfl ?_
  refine x_cS1 (n := 4) (d' := 1) zcX12_isSurvey mlX12_343 dX12_lacks_1 rfl (Nat.le_of_ble_eq_true rfl) (Nat.le_of_ble_eq_true rfl) ?_
  refine c_X12_isSurvey ?_
  refine x_some ?_
  refine x_zif_ne (n := 7) (tgt := 10) dX12_lacks_4 rfl (by decide) (fun c_4 => ?_) (fun c_4 => ?_)
  · rw [if_pos c_4] at hq
    obtain ⟨c, hc, hc2, rfl⟩ := z_num 4 c_4 (by omega)
    rw [ix_nI (by omega)] at hq
    rw [show (sv I).1 c = I q_tSort c from rfl] at hq
    rw [show (sv I).2.1 c = I q_tSize c from rfl] at hq
    have hsz := (hS c hc).2
    have hsz2 : 0 ≤ (I q_tSize c).toInt ∧ (I q_tSize c).toInt ≤ 24 := hsz
    refine x_ald0 (n := 11) dX12_lacks_10 rfl ?_
    refine x_getR (n := 14) flX12_19 rfl dX12_lacks_11 rfl (rK hZ) (rP_tSort hZ) ?_
    refine x_ild1 (n := 15) dX12_lacks_14 rfl ?_
    refine x_old (n := 16) dX12_lacks_15 rfl (rA_tSort hZ) (by decide) (Nat.le_of_ble_eq_true rfl) (by omega) ?_
    refine x_if_ge (n := 19) (tgt := 25) dX12_lacks_16 rfl (by decide) (fun c_16 => ?_) (fun c_16 => ?_)
    · rw [if_neg (Int32.not_lt.mpr c_16)] at hq
      refine x_ild2 (n := 26) dX12_lacks_25 rfl ?_
      refine x_i2l (n := 27) dX12_lacks_26 rfl ?_
      refine x_lconst (n := 28) (v := 0) dX12_lacks_27 rfl (by decide) ?_
      refine x_ald0 (n := 29) dX12_lacks_28 rfl ?_
      refine x_getR (n := 32) flX12_22 rfl dX12_lacks_29 rfl (rK hZ) (rP_tSize hZ) ?_
      refine x_ild1 (n := 33) dX12_lacks_32 rfl ?_
      refine x_old (n := 34) dX12_lacks_33 rfl (rA_tSize hZ) (by decide) (Nat.le_of_ble_eq_true rfl) (by omega) ?_
      refine x_ic1 (n := 35) dX12_lacks_34 rfl ?_
      refine x_isub (n := 36) dX12_lacks_35 rfl ?_
      refine x_i2l (n := 37) dX12_lacks_36 rfl ?_
      refine x_cS3 (n := 40) (d' := 0) zcX12_isIn mlX12_89 dX12_lacks_37 rfl (Nat.le_of_ble_eq_true rfl) (Nat.le_of_ble_eq_true rfl) ?_
      refine c_X12_isIn (zin p 0 ((I q_tSize c).toInt - 1)) (by unfold zin; simp only [zI64]; rw [zsub1 hsz2.1]; rfl) ?_
      refine x_some ?_
      refine x_zif_eq (n := 43) (tgt := 47) dX12_lacks_40 rfl (by decide) (fun c_40 => ?_) (fun c_40 => ?_)
      · rw [if_neg (by rw [c_40]; decide)] at hq
        refine x_ldcw (n := 50) dX12_lacks_47 rfl kiX12_350 ?_
        refine r_iret dX12_lacks_50 rfl ?_
        exact hq
      · rw [if_pos c_40] at hq
        refine x_ic0 (n := 44) dX12_lacks_43 rfl ?_
        refine x_goto (n := 50) dX12_lacks_44 (by decide) ?_
        refine r_iret dX12_lacks_50 rfl ?_
        exact hq
    · rw [if_pos (Int32.not_le.mp c_16)] at hq
      refine x_ldcw (n := 22) dX12_lacks_19 rfl kiX12_349 ?_
      refine x_goto (n := 50) dX12_lacks_22 (by decide) ?_
      refine r_iret dX12_lacks_50 rfl ?_
      exact hq
  · rw [if_neg (by grind)] at hq
    refine x_ldc (n := 9) dX12_lacks_7 rfl kiX12_100 ?_
    refine r_iret dX12_lacks_9 rfl ?_
    exact hq
theorem c_X12_note (hZ : ShR Z) (hS : svOK (sv I)) {x p v : Int32} (hq : Q (some (.int (f_note (sv I) x p v).1)) Z (va_up (svP I (f_note (sv I) x p v).2) q_s g)) : zM l G mX12_note 3 0 0 [.ref qR, .int x, .int p, .int v] Z (va_up I q_s g) Q := by
  refine x_entry [some (.ref qR), some (.int x), some (.int p), some (.int v), none] 1 rfl rfl (Nat.le_of_ble_eq_true rfl) ?_
  unfold f_note at hq
  by_cases hl : lackF (sv I) x p = 0
  · rw [if_pos hl] at hq
    have hl2 := hl
    unfold lackF at hl2
    by_cases hx : zin x 0 3 = true
    · rw [if_pos hx] at hl2
      obtain ⟨c, hc, hc2, rfl⟩ := z_num 4 hx (by omega)
      rw [ix_nI (by omega)] at hl2 hq
      by_cases hs0 : (sv I).1 c < 0
      · rw [if_pos hs0] at hl2; exact absurd hl2 (by decide)
      rw [if_neg hs0] at hl2
      by_cases hp : zin p 0 (((sv I).2.1 c).toInt - 1) = true
      · have hsz : 0 ≤ (I q_tSize c).toInt ∧ (I q_tSize c).toInt ≤ 24 := (hS c hc).2
        obtain ⟨j, hj, hj2, rfl⟩ := z_num 24 hp (by show (I q_tSize c).toInt - 1 < 24; omega)
        rw [ix_nI (by omega)] at hq
        have e1 : (sv I).1 c = I q_tSort c := rfl
        rw [e1] at hq
        have fin : ∀ u : Int32, Q (some (.int (nI 1))) Z (va_up (svP I ((sv I).1, (sv I).2.1, upd (sv I).2.2 (24 * c + j) u)) q_s g) → Q (some (.int (nI 1))) Z (va_up (va_up I q_tNumber (upd (I q_tNumber) (24 * c + j) u)) q_s g) := by
          intro u h
          have : svP I ((sv I).1, (sv I).2.1, upd (sv I).2.2 (24 * c + j) u) = va_up I q_tNumber (upd (I q_tNumber) (24 * c + j) u) := by
            unfold svP sv
            rw [va_up_id, va_up_id]
          rw [this] at h
          exact h
        refine x_ald0 (n := 1) dX12_note_0 rfl ?_
        refine x_ild1 (n := 2) dX12_note_1 rfl ?_
        refine x_ild2 (n := 3) dX12_note_2 rfl ?_
        refine x_cV2 (n := 6) (d' := 2) zcX12_lacks mlX12_351 dX12_note_3 rfl (rK hZ) (Nat.le_of_ble_eq_true rfl) (Nat.le_of_ble_eq_true rfl) ?_
        refine c_X12_lacks hZ hS ?_
        refine x_some ?_
        rw [hl]
        refine x_ist4 (n := 8) dX12_note_6 rfl (by decide) rfl ?_
        refine x_ild4 (n := 10) dX12_note_8 rfl ?_
        refine x_if_eq (n := 13) (tgt := 16) dX12_note_10 rfl (by decide) (fun c_10 => ?_) (fun c_10 => ?_)
        · refine x_ald0 (n := 17) dX12_note_16 rfl ?_
          refine x_getR (n := 20) flX12_19 rfl dX12_note_17 rfl (rK hZ) (rP_tSort hZ) ?_
          refine x_ild1 (n := 21) dX12_note_20 rfl ?_
          refine x_old (n := 22) dX12_note_21 rfl (rA_tSort hZ) (by decide) (Nat.le_of_ble_eq_true rfl) (by omega) ?_
          refine x_ic1 (n := 23) dX12_note_22 rfl ?_
          refine x_icmp_ne (n := 26) (tgt := 35) dX12_note_23 rfl (by decide) (fun c_23 => ?_) (fun c_23 => ?_)
          · refine x_ald0 (n := 36) dX12_note_35 rfl ?_
            refine x_getR (n := 39) flX12_19 rfl dX12_note_36 rfl (rK hZ) (rP_tSort hZ) ?_
            refine x_ild1 (n := 40) dX12_note_39 rfl ?_
            refine x_old (n := 41) dX12_note_40 rfl (rA_tSort hZ) (by decide) (Nat.le_of_ble_eq_true rfl) (by omega) ?_
            refine x_if_ne (n := 44) (tgt := 67) dX12_note_41 rfl (by decide) (fun c_41 => ?_) (fun c_41 => ?_)
            · refine x_ald0 (n := 68) dX12_note_67 rfl ?_
              refine x_getR (n := 71) flX12_25 rfl dX12_note_68 rfl (rK hZ) (rP_tNumber hZ) ?_
              refine x_bipush (n := 73) (v := nI 24) dX12_note_71 rfl (by decide) ?_
              refine x_ild1 (n := 74) dX12_note_73 rfl ?_
              refine x_imulN (n := 75) dX12_note_74 rfl ?_
              refine x_ild2 (n := 76) dX12_note_75 rfl ?_
              refine x_iaddN (n := 77) dX12_note_76 rfl ?_
              refine x_ald0 (n := 78) dX12_note_77 rfl ?_
              refine x_getR (n := 81) flX12_19 rfl dX12_note_78 rfl (rK hZ) (rP_tSort hZ) ?_
              refine x_ild1 (n := 82) dX12_note_81 rfl ?_
              refine x_old (n := 83) dX12_note_82 rfl (rA_tSort hZ) (by decide) (Nat.le_of_ble_eq_true rfl) (by omega) ?_
              refine x_ic1 (n := 84) dX12_note_83 rfl ?_
              refine x_icmp_ne (n := 87) (tgt := 97) dX12_note_84 rfl (by decide) (fun c_84 => ?_) (fun c_84 => ?_)
              · refine x_ild3 (n := 98) dX12_note_97 rfl ?_
                refine x_ost (n := 99) dX12_note_98 rfl (rA_tNumber hZ) (by decide) (Nat.le_of_ble_eq_true rfl) (by omega) ?_
                refine x_ic1 (n := 100) dX12_note_99 rfl ?_
                refine r_iret dX12_note_100 rfl ?_
                rw [if_neg (by grind), if_neg (by grind)] at hq
                refine fin _ ?_
                first | (rw [if_pos c_84] at hq; exact hq) | (rw [if_neg c_84] at hq; exact hq)
              · refine x_ild3 (n := 88) dX12_note_87 rfl ?_
                refine x_bipush (n := 90) (v := nI 16) dX12_note_88 rfl (by decide) ?_
                refine x_ishl (n := 91) dX12_note_90 rfl ?_
                refine x_bipush (n := 93) (v := nI 16) dX12_note_91 rfl (by decide) ?_
                refine x_ishr (n := 94) dX12_note_93 rfl ?_
                refine x_goto (n := 98) dX12_note_94 (by decide) ?_
                refine x_ost (n := 99) dX12_note_98 rfl (rA_tNumber hZ) (by decide) (Nat.le_of_ble_eq_true rfl) (by omega) ?_
                refine x_ic1 (n := 100) dX12_note_99 rfl ?_
                refine r_iret dX12_note_100 rfl ?_
                rw [if_neg (by grind), if_neg (by grind)] at hq
                refine fin _ ?_
                first | (rw [if_pos c_84] at hq; exact hq) | (rw [if_neg c_84] at hq; exact hq)
            · refine x_ild3 (n := 45) dX12_note_44 rfl ?_
              refine x_ldc (n := 47) dX12_note_45 rfl kiX12_88 ?_
              refine x_icmp_eq (n := 50) (tgt := 67) dX12_note_47 rfl (by decide) (fun c_47 => ?_) (fun c_47 => ?_)
              · refine x_ald0 (n := 68) dX12_note_67 rfl ?_
                refine x_getR (n := 71) flX12_25 rfl dX12_note_68 rfl (rK hZ) (rP_tNumber hZ) ?_
                refine x_bipush (n := 73) (v := nI 24) dX12_note_71 rfl (by decide) ?_
                refine x_ild1 (n := 74) dX12_note_73 rfl ?_
                refine x_imulN (n := 75) dX12_note_74 rfl ?_
                refine x_ild2 (n := 76) dX12_note_75 rfl ?_
                refine x_iaddN (n := 77) dX12_note_76 rfl ?_
                refine x_ald0 (n := 78) dX12_note_77 rfl ?_
                refine x_getR (n := 81) flX12_19 rfl dX12_note_78 rfl (rK hZ) (rP_tSort hZ) ?_
                refine x_ild1 (n := 82) dX12_note_81 rfl ?_
                refine x_old (n := 83) dX12_note_82 rfl (rA_tSort hZ) (by decide) (Nat.le_of_ble_eq_true rfl) (by omega) ?_
                refine x_ic1 (n := 84) dX12_note_83 rfl ?_
                refine x_icmp_ne (n := 87) (tgt := 97) dX12_note_84 rfl (by decide) (fun c_84 => ?_) (fun c_84 => ?_)
                · refine x_ild3 (n := 98) dX12_note_97 rfl ?_
                  refine x_ost (n := 99) dX12_note_98 rfl (rA_tNumber hZ) (by decide) (Nat.le_of_ble_eq_true rfl) (by omega) ?_
                  refine x_ic1 (n := 100) dX12_note_99 rfl ?_
                  refine r_iret dX12_note_100 rfl ?_
                  rw [if_neg (by grind), if_neg (by grind)] at hq
                  refine fin _ ?_
                  first | (rw [if_pos c_84] at hq; exact hq) | (rw [if_neg c_84] at hq; exact hq)
                · refine x_ild3 (n := 88) dX12_note_87 rfl ?_
                  refine x_bipush (n := 90) (v := nI 16) dX12_note_88 rfl (by decide) ?_
                  refine x_ishl (n := 91) dX12_note_90 rfl ?_
                  refine x_bipush (n := 93) (v := nI 16) dX12_note_91 rfl (by decide) ?_
                  refine x_ishr (n := 94) dX12_note_93 rfl ?_
                  refine x_goto (n := 98) dX12_note_94 (by decide) ?_
                  refine x_ost (n := 99) dX12_note_98 rfl (rA_tNumber hZ) (by decide) (Nat.le_of_ble_eq_true rfl) (by omega) ?_
                  refine x_ic1 (n := 100) dX12_note_99 rfl ?_
                  refine r_iret dX12_note_100 rfl ?_
                  rw [if_neg (by grind), if_neg (by grind)] at hq
                  refine fin _ ?_
                  first | (rw [if_pos c_84] at hq; exact hq) | (rw [if_neg c_84] at hq; exact hq)
              · refine x_ild3 (n := 51) dX12_note_50 rfl ?_
                refine x_i2l (n := 52) dX12_note_51 rfl ?_
                refine x_ldc2 (n := 55) dX12_note_52 rfl klX12_354 ?_
                refine x_ldc2 (n := 58) dX12_note_55 rfl klX12_356 ?_
                refine x_cS3 (n := 61) (d' := 0) zcX12_isIn mlX12_89 dX12_note_58 rfl (Nat.le_of_ble_eq_true rfl) (Nat.le_of_ble_eq_true rfl) ?_
                refine c_X12_isIn (zin v (-100000) 100000) (by unfold zin; rw [zI64]; rfl) ?_
                refine x_some ?_
                refine x_zif_ne (n := 64) (tgt := 67) dX12_note_61 rfl (by decide) (fun c_61 => ?_) (fun c_61 => ?_)
                · refine x_ald0 (n := 68) dX12_note_67 rfl ?_
                  refine x_getR (n := 71) flX12_25 rfl dX12_note_68 rfl (rK hZ) (rP_tNumber hZ) ?_
                  refine x_bipush (n := 73) (v := nI 24) dX12_note_71 rfl (by decide) ?_
                  refine x_ild1 (n := 74) dX12_note_73 rfl ?_
                  refine x_imulN (n := 75) dX12_note_74 rfl ?_
                  refine x_ild2 (n := 76) dX12_note_75 rfl ?_
                  refine x_iaddN (n := 77) dX12_note_76 rfl ?_
                  refine x_ald0 (n := 78) dX12_note_77 rfl ?_
                  refine x_getR (n := 81) flX12_19 rfl dX12_note_78 rfl (rK hZ) (rP_tSort hZ) ?_
                  refine x_ild1 (n := 82) dX12_note_81 rfl ?_
                  refine x_old (n := 83) dX12_note_82 rfl (rA_tSort hZ) (by decide) (Nat.le_of_ble_eq_true rfl) (by omega) ?_
                  refine x_ic1 (n := 84) dX12_note_83 rfl ?_
                  refine x_icmp_ne (n := 87) (tgt := 97) dX12_note_84 rfl (by decide) (fun c_84 => ?_) (fun c_84 => ?_)
                  · refine x_ild3 (n := 98) dX12_note_97 rfl ?_
                    refine x_ost (n := 99) dX12_note_98 rfl (rA_tNumber hZ) (by decide) (Nat.le_of_ble_eq_true rfl) (by omega) ?_
                    refine x_ic1 (n := 100) dX12_note_99 rfl ?_
                    refine r_iret dX12_note_100 rfl ?_
                    rw [if_neg (by grind), if_neg (by grind)] at hq
                    refine fin _ ?_
                    first | (rw [if_pos c_84] at hq; exact hq) | (rw [if_neg c_84] at hq; exact hq)
                  · refine x_ild3 (n := 88) dX12_note_87 rfl ?_
                    refine x_bipush (n := 90) (v := nI 16) dX12_note_88 rfl (by decide) ?_
                    refine x_ishl (n := 91) dX12_note_90 rfl ?_
                    refine x_bipush (n := 93) (v := nI 16) dX12_note_91 rfl (by decide) ?_
                    refine x_ishr (n := 94) dX12_note_93 rfl ?_
                    refine x_goto (n := 98) dX12_note_94 (by decide) ?_
                    refine x_ost (n := 99) dX12_note_98 rfl (rA_tNumber hZ) (by decide) (Nat.le_of_ble_eq_true rfl) (by omega) ?_
                    refine x_ic1 (n := 100) dX12_note_99 rfl ?_
                    refine r_iret dX12_note_100 rfl ?_
                    rw [if_neg (by grind), if_neg (by grind)] at hq
                    refine fin _ ?_
                    first | (rw [if_pos c_84] at hq; exact hq) | (rw [if_neg c_84] at hq; exact hq)
                · refine x_ldc (n := 66) dX12_note_64 rfl kiX12_100 ?_
                  refine r_iret dX12_note_66 rfl ?_
                  rw [if_neg (by grind), if_pos ⟨c_41, c_47, c_61⟩, svP_id] at hq; exact hq
          · refine x_ild3 (n := 27) dX12_note_26 rfl ?_
            refine x_ldc (n := 29) dX12_note_27 rfl kiX12_88 ?_
            refine x_icmp_ne (n := 32) (tgt := 35) dX12_note_29 rfl (by decide) (fun c_29 => ?_) (fun c_29 => ?_)
            · refine x_ald0 (n := 36) dX12_note_35 rfl ?_
              refine x_getR (n := 39) flX12_19 rfl dX12_note_36 rfl (rK hZ) (rP_tSort hZ) ?_
              refine x_ild1 (n := 40) dX12_note_39 rfl ?_
              refine x_old (n := 41) dX12_note_40 rfl (rA_tSort hZ) (by decide) (Nat.le_of_ble_eq_true rfl) (by omega) ?_
              refine x_if_ne (n := 44) (tgt := 67) dX12_note_41 rfl (by decide) (fun c_41 => ?_) (fun c_41 => ?_)
              · refine x_ald0 (n := 68) dX12_note_67 rfl ?_
                refine x_getR (n := 71) flX12_25 rfl dX12_note_68 rfl (rK hZ) (rP_tNumber hZ) ?_
                refine x_bipush (n := 73) (v := nI 24) dX12_note_71 rfl (by decide) ?_
                refine x_ild1 (n := 74) dX12_note_73 rfl ?_
                refine x_imulN (n := 75) dX12_note_74 rfl ?_
                refine x_ild2 (n := 76) dX12_note_75 rfl ?_
                refine x_iaddN (n := 77) dX12_note_76 rfl ?_
                refine x_ald0 (n := 78) dX12_note_77 rfl ?_
                refine x_getR (n := 81) flX12_19 rfl dX12_note_78 rfl (rK hZ) (rP_tSort hZ) ?_
                refine x_ild1 (n := 82) dX12_note_81 rfl ?_
                refine x_old (n := 83) dX12_note_82 rfl (rA_tSort hZ) (by decide) (Nat.le_of_ble_eq_true rfl) (by omega) ?_
                refine x_ic1 (n := 84) dX12_note_83 rfl ?_
                refine x_icmp_ne (n := 87) (tgt := 97) dX12_note_84 rfl (by decide) (fun c_84 => ?_) (fun c_84 => ?_)
                · refine x_ild3 (n := 98) dX12_note_97 rfl ?_
                  refine x_ost (n := 99) dX12_note_98 rfl (rA_tNumber hZ) (by decide) (Nat.le_of_ble_eq_true rfl) (by omega) ?_
                  refine x_ic1 (n := 100) dX12_note_99 rfl ?_
                  refine r_iret dX12_note_100 rfl ?_
                  rw [if_neg (by grind), if_neg (by grind)] at hq
                  refine fin _ ?_
                  first | (rw [if_pos c_84] at hq; exact hq) | (rw [if_neg c_84] at hq; exact hq)
                · refine x_ild3 (n := 88) dX12_note_87 rfl ?_
                  refine x_bipush (n := 90) (v := nI 16) dX12_note_88 rfl (by decide) ?_
                  refine x_ishl (n := 91) dX12_note_90 rfl ?_
                  refine x_bipush (n := 93) (v := nI 16) dX12_note_91 rfl (by decide) ?_
                  refine x_ishr (n := 94) dX12_note_93 rfl ?_
                  refine x_goto (n := 98) dX12_note_94 (by decide) ?_
                  refine x_ost (n := 99) dX12_note_98 rfl (rA_tNumber hZ) (by decide) (Nat.le_of_ble_eq_true rfl) (by omega) ?_
                  refine x_ic1 (n := 100) dX12_note_99 rfl ?_
                  refine r_iret dX12_note_100 rfl ?_
                  rw [if_neg (by grind), if_neg (by grind)] at hq
                  refine fin _ ?_
                  first | (rw [if_pos c_84] at hq; exact hq) | (rw [if_neg c_84] at hq; exact hq)
              · refine x_ild3 (n := 45) dX12_note_44 rfl ?_
                refine x_ldc (n := 47) dX12_note_45 rfl kiX12_88 ?_
                refine x_icmp_eq (n := 50) (tgt := 67) dX12_note_47 rfl (by decide) (fun c_47 => ?_) (fun c_47 => ?_)
                · refine x_ald0 (n := 68) dX12_note_67 rfl ?_
                  refine x_getR (n := 71) flX12_25 rfl dX12_note_68 rfl (rK hZ) (rP_tNumber hZ) ?_
                  refine x_bipush (n := 73) (v := nI 24) dX12_note_71 rfl (by decide) ?_
                  refine x_ild1 (n := 74) dX12_note_73 rfl ?_
                  refine x_imulN (n := 75) dX12_note_74 rfl ?_
                  refine x_ild2 (n := 76) dX12_note_75 rfl ?_
                  refine x_iaddN (n := 77) dX12_note_76 rfl ?_
                  refine x_ald0 (n := 78) dX12_note_77 rfl ?_
                  refine x_getR (n := 81) flX12_19 rfl dX12_note_78 rfl (rK hZ) (rP_tSort hZ) ?_
                  refine x_ild1 (n := 82) dX12_note_81 rfl ?_
                  refine x_old (n := 83) dX12_note_82 rfl (rA_tSort hZ) (by decide) (Nat.le_of_ble_eq_true rfl) (by omega) ?_
                  refine x_ic1 (n := 84) dX12_note_83 rfl ?_
                  refine x_icmp_ne (n := 87) (tgt := 97) dX12_note_84 rfl (by decide) (fun c_84 => ?_) (fun c_84 => ?_)
                  · refine x_ild3 (n := 98) dX12_note_97 rfl ?_
                    refine x_ost (n := 99) dX12_note_98 rfl (rA_tNumber hZ) (by decide) (Nat.le_of_ble_eq_true rfl) (by omega) ?_
                    refine x_ic1 (n := 100) dX12_note_99 rfl ?_
                    refine r_iret dX12_note_100 rfl ?_
                    rw [if_neg (by grind), if_neg (by grind)] at hq
                    refine fin _ ?_
                    first | (rw [if_pos c_84] at hq; exact hq) | (rw [if_neg c_84] at hq; exact hq)
                  · refine x_ild3 (n := 88) dX12_note_87 rfl ?_
                    refine x_bipush (n := 90) (v := nI 16) dX12_note_88 rfl (by decide) ?_
                    refine x_ishl (n := 91) dX12_note_90 rfl ?_
                    refine x_bipush (n := 93) (v := nI 16) dX12_note_91 rfl (by decide) ?_
                    refine x_ishr (n := 94) dX12_note_93 rfl ?_
                    refine x_goto (n := 98) dX12_note_94 (by decide) ?_
                    refine x_ost (n := 99) dX12_note_98 rfl (rA_tNumber hZ) (by decide) (Nat.le_of_ble_eq_true rfl) (by omega) ?_
                    refine x_ic1 (n := 100) dX12_note_99 rfl ?_
                    refine r_iret dX12_note_100 rfl ?_
                    rw [if_neg (by grind), if_neg (by grind)] at hq
                    refine fin _ ?_
                    first | (rw [if_pos c_84] at hq; exact hq) | (rw [if_neg c_84] at hq; exact hq)
                · refine x_ild3 (n := 51) dX12_note_50 rfl ?_
                  refine x_i2l (n := 52) dX12_note_51 rfl ?_
                  refine x_ldc2 (n := 55) dX12_note_52 rfl klX12_354 ?_
                  refine x_ldc2 (n := 58) dX12_note_55 rfl klX12_356 ?_
                  refine x_cS3 (n := 61) (d' := 0) zcX12_isIn mlX12_89 dX12_note_58 rfl (Nat.le_of_ble_eq_true rfl) (Nat.le_of_ble_eq_true rfl) ?_
                  refine c_X12_isIn (zin v (-100000) 100000) (by unfold zin; rw [zI64]; rfl) ?_
                  refine x_some ?_
                  refine x_zif_ne (n := 64) (tgt := 67) dX12_note_61 rfl (by decide) (fun c_61 => ?_) (fun c_61 => ?_)
                  · refine x_ald0 (n := 68) dX12_note_67 rfl ?_
                    refine x_getR (n := 71) flX12_25 rfl dX12_note_68 rfl (rK hZ) (rP_tNumber hZ) ?_
                    refine x_bipush (n := 73) (v := nI 24) dX12_note_71 rfl (by decide) ?_
                    refine x_ild1 (n := 74) dX12_note_73 rfl ?_
                    refine x_imulN (n := 75) dX12_note_74 rfl ?_
                    refine x_ild2 (n := 76) dX12_note_75 rfl ?_
                    refine x_iaddN (n := 77) dX12_note_76 rfl ?_
                    refine x_ald0 (n := 78) dX12_note_77 rfl ?_
                    refine x_getR (n := 81) flX12_19 rfl dX12_note_78 rfl (rK hZ) (rP_tSort hZ) ?_
                    refine x_ild1 (n := 82) dX12_note_81 rfl ?_
                    refine x_old (n := 83) dX12_note_82 rfl (rA_tSort hZ) (by decide) (Nat.le_of_ble_eq_true rfl) (by omega) ?_
                    refine x_ic1 (n := 84) dX12_note_83 rfl ?_
                    refine x_icmp_ne (n := 87) (tgt := 97) dX12_note_84 rfl (by decide) (fun c_84 => ?_) (fun c_84 => ?_)
                    · refine x_ild3 (n := 98) dX12_note_97 rfl ?_
                      refine x_ost (n := 99) dX12_note_98 rfl (rA_tNumber hZ) (by decide) (Nat.le_of_ble_eq_true rfl) (by omega) ?_
                      refine x_ic1 (n := 100) dX12_note_99 rfl ?_
                      refine r_iret dX12_note_100 rfl ?_
                      rw [if_neg (by grind), if_neg (by grind)] at hq
                      refine fin _ ?_
                      first | (rw [if_pos c_84] at hq; exact hq) | (rw [if_neg c_84] at hq; exact hq)
                    · refine x_ild3 (n := 88) dX12_note_87 rfl ?_
                      refine x_bipush (n := 90) (v := nI 16) dX12_note_88 rfl (by decide) ?_
                      refine x_ishl (n := 91) dX12_note_90 rfl ?_
                      refine x_bipush (n := 93) (v := nI 16) dX12_note_91 rfl (by decide) ?_
                      refine x_ishr (n := 94) dX12_note_93 rfl ?_
                      refine x_goto (n := 98) dX12_note_94 (by decide) ?_
                      refine x_ost (n := 99) dX12_note_98 rfl (rA_tNumber hZ) (by decide) (Nat.le_of_ble_eq_true rfl) (by omega) ?_
                      refine x_ic1 (n := 100) dX12_note_99 rfl ?_
                      refine r_iret dX12_note_100 rfl ?_
                      rw [if_neg (by grind), if_neg (by grind)] at hq
                      refine fin _ ?_
                      first | (rw [if_pos c_84] at hq; exact hq) | (rw [if_neg c_84] at hq; exact hq)
                  · refine x_ldc (n := 66) dX12_note_64 rfl kiX12_100 ?_
                    refine r_iret dX12_note_66 rfl ?_
                    rw [if_neg (by grind), if_pos ⟨c_41, c_47, c_61⟩, svP_id] at hq; exact hq
            · refine x_ldc (n := 34) dX12_note_32 rfl kiX12_174 ?_
              refine r_iret dX12_note_34 rfl ?_
              rw [if_pos ⟨c_23, c_29⟩, svP_id] at hq; exact hq
        · exact absurd rfl c_10
      · rw [if_neg hp] at hl2; exact absurd hl2 (by decide)
    · rw [if_neg hx] at hl2; exact absurd hl2 (by decide)
  · rw [if_neg hl, svP_id] at hq
    refine x_ald0 (n := 1) dX12_note_0 rfl ?_
    refine x_ild1 (n := 2) dX12_note_1 rfl ?_
    refine x_ild2 (n := 3) dX12_note_2 rfl ?_
    refine x_cV2 (n := 6) (d' := 2) zcX12_lacks mlX12_351 dX12_note_3 rfl (rK hZ) (Nat.le_of_ble_eq_true rfl) (Nat.le_of_ble_eq_true rfl) ?_
    refine c_X12_lacks hZ hS ?_
    refine x_some ?_
    refine x_ist4 (n := 8) dX12_note_6 rfl (by decide) rfl ?_
    refine x_ild4 (n := 10) dX12_note_8 rfl ?_
    refine x_if_eq (n := 13) (tgt := 16) dX12_note_10 rfl (by decide) (fun c_10 => ?_) (fun c_10 => ?_)
    · exact absurd c_10 hl
    · refine x_ild4 (n := 15) dX12_note_13 rfl ?_
      refine r_iret dX12_note_15 rfl ?_
      exact hq
theorem c_X12_setAside {a b : Nat} (ha : za Z a 13 5530) (hb : za Z b 13 5530) (hab : a ≠ b) (hq : Q none Z (va_up I b (cpF (I a) (I b) 5530))) : zM l G mX12_setAside 0 0 0 [.ref qR, .ref a, .ref b] Z I Q := by
  refine x_entry [some (.ref qR), some (.ref a), some (.ref b), none] 1 rfl rfl (Nat.le_of_ble_eq_true rfl) ?_
  have lp : ∀ m k, k ≤ 5530 → 5530 - k < m → zX l G mX12_setAside 0 0 0 2 [some (.ref qR), some (.ref a), some (.ref b), some (.int (nI k))] [] Z (va_up I b (cpF (I a) (I b) k)) Q := by
    intro m
    induction m with
    | zero => intro k _ h; exact absurd h (by omega)
    | succ m ih =>
      intro k hk hm
      refine x_ild3 (n := 3) dX12_setAside_2 rfl ?_
      refine x_sipush (n := 6) (v := nI 5530) dX12_setAside_3 rfl (by decide) ?_
      refine x_icmpN_ge (n := 9) (tgt := 21) dX12_setAside_6 rfl (by decide) (by omega) (by omega) (fun c_6 => ?_) (fun c_6 => ?_)
      · refine r_vret dX12_setAside_21 rfl ?_
        rw [show k = 5530 by omega]; exact hq
      · refine x_ald2 (n := 10) dX12_setAside_9 rfl ?_
        refine x_ild3 (n := 11) dX12_setAside_10 rfl ?_
        refine x_ald1 (n := 12) dX12_setAside_11 rfl ?_
        refine x_ild3 (n := 13) dX12_setAside_12 rfl ?_
        refine x_ialdN (n := 14) dX12_setAside_13 rfl ha (Nat.le_of_ble_eq_true rfl) (by omega) ?_
        refine x_iastN (n := 15) dX12_setAside_14 rfl hb (Nat.le_of_ble_eq_true rfl) (by omega) ?_
        refine x_iincN3 (n := 18) (k := 1) dX12_setAside_15 rfl (by decide) rfl ?_
        refine x_goto (n := 2) dX12_setAside_18 (by decide) ?_
        rw [va_up_same, va_up_2, va_up_off hab, cpF_s]
        exact ih (k + 1) (by omega) (by omega)
  have l0 := lp 5531 0 (by omega) (by omega)
  rw [cpF_0, va_up_id] at l0
  refine x_ic0 (n := 1) dX12_setAside_0 rfl ?_
  refine x_ist3 (n := 2) dX12_setAside_1 rfl (by decide) rfl ?_
  exact l0
theorem c_X12_keep (hZ : ShR Z) (hq : Q (some (.int (g 8))) Z (va_up (va_up (va_up I qR (upd (I qR) 3 (nI 1))) q_image (cpF g (I q_image) 5530)) q_s g)) : zM l G mX12_keep 1 0 0 [.ref qR] Z (va_up I q_s g) Q := by
  refine x_entry [some (.ref qR)] 0 rfl rfl (Nat.le_of_ble_eq_true rfl) ?_
  refine x_ald0 (n := 1) dX12_keep_0 rfl ?_
  refine x_ic1 (n := 2) dX12_keep_1 rfl ?_
  refine x_rput (n := 5) flX12_366 rfl rfl (by first | exact nar0 | exact nar1) (by decide) dX12_keep_2 rfl hZ ?_
  refine x_ald0 (n := 6) dX12_keep_5 rfl ?_
  refine x_ald0 (n := 7) dX12_keep_6 rfl ?_
  refine x_getR (n := 10) flX12_7 rfl dX12_keep_7 rfl (rK hZ) (rP_s hZ) ?_
  refine x_ald0 (n := 11) dX12_keep_10 rfl ?_
  refine x_getR (n := 14) flX12_13 rfl dX12_keep_11 rfl (rK hZ) (rP_image hZ) ?_
  refine x_cV2 (n := 17) (d' := 0) zcX12_setAside mlX12_370 dX12_keep_14 rfl (rK hZ) (Nat.le_of_ble_eq_true rfl) (Nat.le_of_ble_eq_true rfl) ?_
  refine c_X12_setAside (rA_s hZ) (rA_image hZ) (by decide) ?_
  rw [va_up_same, va_up_off (show q_image ≠ q_s by decide), va_up_off (show q_image ≠ qR by decide), va_up_sw _ (show q_s ≠ q_image by decide)]
  refine x_none ?_
  refine x_ald0 (n := 18) dX12_keep_17 rfl ?_
  refine x_getR (n := 21) flX12_7 rfl dX12_keep_18 rfl (rK hZ) (rP_s hZ) ?_
  refine x_bipush (n := 23) (v := nI 8) dX12_keep_21 rfl (by decide) ?_
  refine x_sld (n := 24) dX12_keep_23 rfl hZ (by omega) ?_
  refine r_iret dX12_keep_24 rfl ?_
  exact hq
theorem c_X12_back (hZ : ShR Z) (hq : Q (some (.int (if I qR 3 = 0 then -1000000002 else cpF (I q_image) g 5530 8))) Z (va_up I q_s (if I qR 3 = 0 then g else cpF (I q_image) g 5530))) : zM l G mX12_back 1 0 0 [.ref qR] Z (va_up I q_s g) Q := by
  refine x_entry [some (.ref qR)] 0 rfl rfl (Nat.le_of_ble_eq_true rfl) ?_
  refine x_ald0 (n := 1) dX12_back_0 rfl ?_
  refine x_rget (n := 4) flX12_366 rfl dX12_back_1 rfl hZ ?_
  refine x_if_ne (n := 7) (tgt := 10) dX12_back_4 rfl (by decide) (fun c_4 => ?_) (fun c_4 => ?_)
  · rw [if_neg c_4, if_neg c_4] at hq
    refine x_ald0 (n := 11) dX12_back_10 rfl ?_
    refine x_ald0 (n := 12) dX12_back_11 rfl ?_
    refine x_getR (n := 15) flX12_13 rfl dX12_back_12 rfl (rK hZ) (rP_image hZ) ?_
    refine x_ald0 (n := 16) dX12_back_15 rfl ?_
    refine x_getR (n := 19) flX12_7 rfl dX12_back_16 rfl (rK hZ) (rP_s hZ) ?_
    refine x_cV2 (n := 22) (d' := 0) zcX12_setAside mlX12_370 dX12_back_19 rfl (rK hZ) (Nat.le_of_ble_eq_true rfl) (Nat.le_of_ble_eq_true rfl) ?_
    refine c_X12_setAside (rA_image hZ) (rA_s hZ) (by decide) ?_
    rw [va_up_same, va_up_off (show q_image ≠ q_s by decide), va_up_2]
    refine x_none ?_
    refine x_ald0 (n := 23) dX12_back_22 rfl ?_
    refine x_getR (n := 26) flX12_7 rfl dX12_back_23 rfl (rK hZ) (rP_s hZ) ?_
    refine x_bipush (n := 28) (v := nI 8) dX12_back_26 rfl (by decide) ?_
    refine x_sld (n := 29) dX12_back_28 rfl hZ (by omega) ?_
    refine r_iret dX12_back_29 rfl ?_
    exact hq
  · refine x_ldc (n := 9) dX12_back_7 rfl kiX12_101 ?_
    refine r_iret dX12_back_9 rfl ?_
    rw [if_pos c_4, if_pos c_4] at hq; exact hq
theorem c_X12_tell (hZ : ShR Z) {v : Int32} {w : Nat} (hw : I qR 34 = nI w) (hw2 : w ≤ 60) (hq : Q (some (.int (if w = 60 then -1000000003 else nI (w + 1)))) Z (va_up (if w = 60 then I else va_up (va_up I q_waits (upd (I q_waits) w v)) qR (upd (I qR) 34 (nI (w + 1)))) q_s g)) : zM l G mX12_tell 0 0 0 [.ref qR, .int v] Z (va_up I q_s g) Q := by
  refine x_entry [some (.ref qR), some (.int v)] 0 rfl rfl (Nat.le_of_ble_eq_true rfl) ?_
  refine x_ald0 (n := 1) dX12_tell_0 rfl ?_
  refine x_rget (n := 4) flX12_361 rfl dX12_tell_1 rfl hZ ?_
  rw [hw]
  refine x_bipush (n := 6) (v := nI 60) dX12_tell_4 rfl (by decide) ?_
  refine x_icmpN_ne (n := 9) (tgt := 12) dX12_tell_6 rfl (by decide) (by omega) (by omega) (fun c_6 => ?_) (fun c_6 => ?_)
  · rw [if_neg (by omega), if_neg (by omega)] at hq
    refine x_ald0 (n := 13) dX12_tell_12 rfl ?_
    refine x_getR (n := 16) flX12_74 rfl dX12_tell_13 rfl (rK hZ) (rP_waits hZ) ?_
    refine x_ald0 (n := 17) dX12_tell_16 rfl ?_
    refine x_rget (n := 20) flX12_361 rfl dX12_tell_17 rfl hZ ?_
    rw [hw]
    refine x_ild1 (n := 21) dX12_tell_20 rfl ?_
    refine x_ost (n := 22) dX12_tell_21 rfl (rA_waits hZ) (by decide) (Nat.le_of_ble_eq_true rfl) (by omega) ?_
    refine x_ald0 (n := 23) dX12_tell_22 rfl ?_
    refine x_dup (n := 24) dX12_tell_23 rfl rfl ?_
    refine x_rget (n := 27) flX12_361 rfl dX12_tell_24 rfl hZ ?_
    rw [va_up_off (show qR ≠ q_waits by decide), hw]
    refine x_ic1 (n := 28) dX12_tell_27 rfl ?_
    refine x_iaddN (n := 29) dX12_tell_28 rfl ?_
    refine x_rput (n := 32) flX12_361 rfl rfl rfl rfl dX12_tell_29 rfl hZ ?_
    refine x_ald0 (n := 33) dX12_tell_32 rfl ?_
    refine x_rget (n := 36) flX12_361 rfl dX12_tell_33 rfl hZ ?_
    rw [va_up_same, upd_same]
    refine r_iret dX12_tell_36 rfl ?_
    exact hq
  · refine x_ldc (n := 11) dX12_tell_9 rfl kiX12_149 ?_
    refine r_iret dX12_tell_11 rfl ?_
    rw [if_pos (by omega), if_pos (by omega)] at hq; exact hq
end
