/-! ===== the class's tape: a long word is no part ===== -/
section
variable {l : Launch} {G : zG} {Z : zS} {I : zI} {Q : Option Value → zS → zI → Prop} {t : Nat}
theorem c_X6_takesPartW (hS : ShL Z) {b e : Nat} (h1 : I 244 1 = nI t) (ht : t ≤ 96) (hbt : b < t) (hbe : b ≤ e) (he : e ≤ 97) (hL : isLe (I 245) t b = true) (hD : isDi (I 245) t b = false) (hw : e - b ≠ 1) (hq : Q (some (.int (nI 0))) Z I) : zM l G mX6_takesPart 4 0 0 [.ref 244, .int (nI b), .int (nI e)] Z I Q := by
  refine x_entry [some (.ref 244), some (.int (nI b)), some (.int (nI e)), none] 1 rfl rfl (Nat.le_of_ble_eq_true rfl) ?_
  refine x_ald0 (n := 1) dX6_takesPart_0 rfl ?_
  refine x_ild1 (n := 2) dX6_takesPart_1 rfl ?_
  refine x_cV1 (n := 5) (d' := 1) zcX6_isDigit mlX6_96 dX6_takesPart_2 rfl (lK_Tp hS) (Nat.le_of_ble_eq_true rfl) (Nat.le_of_ble_eq_true rfl) ?_
  refine c_X6_isDigit hS h1 ht (by omega) ?_
  refine x_some ?_
  refine x_zif_eq (n := 8) (tgt := 15) dX6_takesPart_5 rfl (by decide) (fun c_5 => ?_) (fun c_5 => ?_)
  · refine x_ald0 (n := 16) dX6_takesPart_15 rfl ?_
    refine x_ild1 (n := 17) dX6_takesPart_16 rfl ?_
    refine x_cV1 (n := 20) (d' := 1) zcX6_isLetter mlX6_93 dX6_takesPart_17 rfl (lK_Tp hS) (Nat.le_of_ble_eq_true rfl) (Nat.le_of_ble_eq_true rfl) ?_
    refine c_X6_isLetter hS h1 ht (by omega) ?_
    refine x_some ?_
    refine x_zif_eq (n := 23) (tgt := 71) dX6_takesPart_20 rfl (by decide) (fun c_20 => ?_) (fun c_20 => ?_)
    · exact absurd (c_20.symm.trans hL) (by decide)
    · refine x_ild2 (n := 24) dX6_takesPart_23 rfl ?_
      refine x_ild1 (n := 25) dX6_takesPart_24 rfl ?_
      refine x_isubN (n := 26) dX6_takesPart_25 rfl (by omega) ?_
      refine x_ic1 (n := 27) dX6_takesPart_26 rfl ?_
      refine x_icmpN_ne (n := 30) (tgt := 47) dX6_takesPart_27 rfl (by decide) (by omega) (by omega) (fun c_27 => ?_) (fun c_27 => ?_)
      · refine x_icm1 (n := 48) dX6_takesPart_47 rfl ?_
        refine x_ist3 (n := 49) dX6_takesPart_48 rfl (by decide) rfl ?_
        refine x_ild3 (n := 50) dX6_takesPart_49 rfl ?_
        refine x_if_lt (n := 53) (tgt := 69) dX6_takesPart_50 rfl (by decide) (fun c_50 => ?_) (fun c_50 => ?_)
        · refine x_ic0 (n := 70) dX6_takesPart_69 rfl ?_
          refine r_zret dX6_takesPart_70 rfl (by first | exact nar0 | exact nar1 | exact zb_nar _) ?_
          exact hq
        · exact absurd (by decide) c_50
      · exact absurd c_27 hw
  · exact absurd (c_5.symm.trans hD) (by decide)
end
