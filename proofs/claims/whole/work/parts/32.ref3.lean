section
variable {l : Launch} {G : zG} {Z : zS} {I : zI} {g : Nat → Int32} {Q : Option Value → zS → zI → Prop}
theorem c_X12_stratumOf (hZ : ShR Z) (hB : InvB g) {w : Nat} (hw : w < vN g 1) (hq : Q (some (.int (gStr g w))) Z (va_up I q_s g)) : zM l G mX12_stratumOf 1 0 0 [.ref qR, .int (nI w)] Z (va_up I q_s g) Q := by
  have h1 := iv1 hB
  have h0 := iv0 hB
  have hc := (ivW hB hw).2.1
  have hc1 := rg_nI hc (by omega) (by omega)
  have hc2 := rg_le hc (by omega)
  refine x_entry [some (.ref qR), some (.int (nI w))] 0 rfl rfl (Nat.le_of_ble_eq_true rfl) ?_
  refine x_ald0 (n := 1) dX12_stratumOf_0 rfl ?_
  refine x_getR (n := 4) flX12_7 rfl dX12_stratumOf_1 rfl (rK hZ) (rP_s hZ) ?_
  refine x_ald0 (n := 5) dX12_stratumOf_4 rfl ?_
  refine x_ald0 (n := 6) dX12_stratumOf_5 rfl ?_
  refine x_getR (n := 9) flX12_7 rfl dX12_stratumOf_6 rfl (rK hZ) (rP_s hZ) ?_
  refine x_ald0 (n := 10) dX12_stratumOf_9 rfl ?_
  refine x_ild1 (n := 11) dX12_stratumOf_10 rfl ?_
  refine x_cV1 (n := 14) (d' := 0) zcX12_workAt mlX12_93 dX12_stratumOf_11 rfl (rK hZ) (Nat.le_of_ble_eq_true rfl) (Nat.le_of_ble_eq_true rfl) ?_
  refine c_X12_workAt ?_
  refine x_some ?_
  refine x_ic1 (n := 15) dX12_stratumOf_14 rfl ?_
  refine x_iaddN (n := 16) dX12_stratumOf_15 rfl ?_
  refine x_sld (n := 17) dX12_stratumOf_16 rfl hZ (by omega) ?_
  rw [hc1]
  refine x_cV1 (n := 20) (d' := 0) zcX12_chainAt mlX12_84 dX12_stratumOf_17 rfl (rK hZ) (Nat.le_of_ble_eq_true rfl) (Nat.le_of_ble_eq_true rfl) ?_
  refine c_X12_chainAt ?_
  refine x_some ?_
  refine x_ic2 (n := 21) dX12_stratumOf_20 rfl ?_
  refine x_iaddN (n := 22) dX12_stratumOf_21 rfl ?_
  refine x_sld (n := 23) dX12_stratumOf_22 rfl hZ (by omega) ?_
  refine r_iret dX12_stratumOf_23 rfl ?_
  exact hq
theorem c_X12_rateOf (hZ : ShR Z) (hC : RfC I) (hB : InvB g) {w : Nat} {wet : Int32} (hw : w < vN g 1) (hq : Q (some (.int (gRate g w wet))) Z (va_up I q_s g)) : zM l G mX12_rateOf 2 0 0 [.ref qR, .int (nI w), .int wet] Z (va_up I q_s g) Q := by
  have h1 := iv1 hB
  have h0 := iv0 hB
  have hc := (ivW hB hw).2.1
  have hc2 := rg_le hc (by omega)
  have hs : rg (gStr g w) 0 3 := (ivC hB (c := vN g (120 + 10 * w + 1)) (by omega)).2.2.1
  obtain ⟨k, hk, hk2, hk3⟩ := z_num (x := gStr g w) (hi := 3) 4 (decide_eq_true hs) (by omega)
  unfold gRate at hq
  rw [hk3] at hq
  refine x_entry [some (.ref qR), some (.int (nI w)), some (.int wet), none, none] 2 rfl rfl (Nat.le_of_ble_eq_true rfl) ?_
  have cutok : zX l G mX12_rateOf 2 0 0 29 [some (.ref qR), some (.int (nI w)), some (.int wet), some (.int (nI k)), some (.int (cutF (nI k) wet))] [] Z (va_up I q_s g) Q := by
    unfold rateF at hq
    refine x_ald0 (n := 30) dX12_rateOf_29 rfl ?_
    refine x_ild1 (n := 31) dX12_rateOf_30 rfl ?_
    refine x_cV1 (n := 34) (d' := 1) zcX12_kindOf mlX12_114 dX12_rateOf_31 rfl (rK hZ) (Nat.le_of_ble_eq_true rfl) (Nat.le_of_ble_eq_true rfl) ?_
    refine c_X12_kindOf hZ (by omega) ?_
    refine x_some ?_
    rcases zsw1_6 (g (120 + 10 * w)) with hsw | hsw | hsw | hsw | hsw | hsw | hsw
    · refine x_tswO (n := 112) dX12_rateOf_34 hsw (by decide) ?_
      refine x_ic2 (n := 113) dX12_rateOf_112 rfl ?_
      refine r_iret dX12_rateOf_113 rfl ?_
      rw [if_neg, if_neg, if_neg, if_neg, if_neg, if_neg] at hq
      · exact hq
      all_goals (intro h9; rw [h9] at hsw; revert hsw; decide)
    · refine x_top hsw ?_
      refine x_tswI (n := 72) (off := 38) dX12_rateOf_34 (by decide) (by decide) (by decide +kernel) (by decide) ?_
      refine x_ild4 (n := 74) dX12_rateOf_72 rfl ?_
      refine r_iret dX12_rateOf_74 rfl ?_
      rw [if_pos hsw] at hq; exact hq
    · refine x_top hsw ?_
      refine x_tswI (n := 75) (off := 41) dX12_rateOf_34 (by decide) (by decide) (by decide +kernel) (by decide) ?_
      refine x_ild2 (n := 76) dX12_rateOf_75 rfl ?_
      refine x_ic4 (n := 77) dX12_rateOf_76 rfl ?_
      refine x_icmp_le (n := 80) (tgt := 84) dX12_rateOf_77 rfl (by decide) (fun c_77 => ?_) (fun c_77 => ?_)
      · refine x_ic2 (n := 85) dX12_rateOf_84 rfl ?_
        refine r_iret dX12_rateOf_85 rfl ?_
        rw [zle] at c_77
        have c_77 : (nI 4).toInt = 4 := by decide
        rw [if_neg (by rw [hsw]; decide), if_pos hsw] at hq
        first | (rw [if_pos (by omega)] at hq; exact hq) | (rw [if_neg (by omega)] at hq; exact hq)
      · refine x_ic1 (n := 81) dX12_rateOf_80 rfl ?_
        refine x_goto (n := 85) dX12_rateOf_81 (by decide) ?_
        refine r_iret dX12_rateOf_85 rfl ?_
        rw [zle] at c_77
        have c_77 : (nI 4).toInt = 4 := by decide
        rw [if_neg (by rw [hsw]; decide), if_pos hsw] at hq
        first | (rw [if_pos (by omega)] at hq; exact hq) | (rw [if_neg (by omega)] at hq; exact hq)
    · refine x_top hsw ?_
      refine x_tswI (n := 86) (off := 52) dX12_rateOf_34 (by decide) (by decide) (by decide +kernel) (by decide) ?_
      refine x_ild4 (n := 88) dX12_rateOf_86 rfl ?_
      refine x_ic1 (n := 89) dX12_rateOf_88 rfl ?_
      refine x_iadd (n := 90) dX12_rateOf_89 rfl ?_
      refine x_ic2 (n := 91) dX12_rateOf_90 rfl ?_
      refine x_idiv (n := 92) dX12_rateOf_91 rfl (by decide) ?_
      refine r_iret dX12_rateOf_92 rfl ?_
      rw [if_neg (by rw [hsw]; decide), if_neg (by rw [hsw]; decide), if_pos hsw] at hq; exact hq
    · refine x_top hsw ?_
      refine x_tswI (n := 93) (off := 59) dX12_rateOf_34 (by decide) (by decide) (by decide +kernel) (by decide) ?_
      refine x_ild2 (n := 94) dX12_rateOf_93 rfl ?_
      refine x_bipush (n := 96) (v := nI 7) dX12_rateOf_94 rfl (by decide) ?_
      refine x_icmp_le (n := 99) (tgt := 103) dX12_rateOf_96 rfl (by decide) (fun c_96 => ?_) (fun c_96 => ?_)
      · refine x_ic1 (n := 104) dX12_rateOf_103 rfl ?_
        refine r_iret dX12_rateOf_104 rfl ?_
        rw [zle] at c_96
        have c_97 : (nI 7).toInt = 7 := by decide
        rw [if_neg (by rw [hsw]; decide), if_neg (by rw [hsw]; decide), if_neg (by rw [hsw]; decide), if_pos hsw] at hq
        first | (rw [if_pos (by omega)] at hq; exact hq) | (rw [if_neg (by omega)] at hq; exact hq)
      · refine x_ic0 (n := 100) dX12_rateOf_99 rfl ?_
        refine x_goto (n := 104) dX12_rateOf_100 (by decide) ?_
        refine r_iret dX12_rateOf_104 rfl ?_
        rw [zle] at c_96
        have c_97 : (nI 7).toInt = 7 := by decide
        rw [if_neg (by rw [hsw]; decide), if_neg (by rw [hsw]; decide), if_neg (by rw [hsw]; decide), if_pos hsw] at hq
        first | (rw [if_pos (by omega)] at hq; exact hq) | (rw [if_neg (by omega)] at hq; exact hq)
    · refine x_top hsw ?_
      refine x_tswI (n := 105) (off := 71) dX12_rateOf_34 (by decide) (by decide) (by decide +kernel) (by decide) ?_
      refine x_ild4 (n := 107) dX12_rateOf_105 rfl ?_
      refine x_ic1 (n := 108) dX12_rateOf_107 rfl ?_
      refine x_iadd (n := 109) dX12_rateOf_108 rfl ?_
      refine r_iret dX12_rateOf_109 rfl ?_
      rw [if_neg (by rw [hsw]; decide), if_neg (by rw [hsw]; decide), if_neg (by rw [hsw]; decide), if_neg (by rw [hsw]; decide), if_pos hsw] at hq; exact hq
    · refine x_top hsw ?_
      refine x_tswI (n := 110) (off := 76) dX12_rateOf_34 (by decide) (by decide) (by decide +kernel) (by decide) ?_
      refine x_ic4 (n := 111) dX12_rateOf_110 rfl ?_
      refine r_iret dX12_rateOf_111 rfl ?_
      rw [if_neg (by rw [hsw]; decide), if_neg (by rw [hsw]; decide), if_neg (by rw [hsw]; decide), if_neg (by rw [hsw]; decide), if_neg (by rw [hsw]; decide), if_pos hsw] at hq; exact hq
  refine x_ald0 (n := 1) dX12_rateOf_0 rfl ?_
  refine x_ild1 (n := 2) dX12_rateOf_1 rfl ?_
  refine x_cV1 (n := 5) (d' := 1) zcX12_stratumOf mlX12_153 dX12_rateOf_2 rfl (rK hZ) (Nat.le_of_ble_eq_true rfl) (Nat.le_of_ble_eq_true rfl) ?_
  refine c_X12_stratumOf hZ hB hw ?_
  rw [hk3]
  refine x_some ?_
  refine x_ist3 (n := 6) dX12_rateOf_5 rfl (by decide) rfl ?_
  refine x_ild3 (n := 7) dX12_rateOf_6 rfl ?_
  refine x_ic2 (n := 8) dX12_rateOf_7 rfl ?_
  refine x_icmpN_ne (n := 11) (tgt := 21) dX12_rateOf_8 rfl (by decide) (by omega) (by omega) (fun c_8 => ?_) (fun c_8 => ?_)
  · refine x_ald0 (n := 22) dX12_rateOf_21 rfl ?_
    refine x_getR (n := 25) flX12_28 rfl dX12_rateOf_22 rfl (rK hZ) (rP_cutRate hZ) ?_
    refine x_ild3 (n := 26) dX12_rateOf_25 rfl ?_
    refine x_old (n := 27) dX12_rateOf_26 rfl (rA_cutRate hZ) (by decide) (Nat.le_of_ble_eq_true rfl) (by omega) ?_
    have e6 : (nI 6).toInt = 6 := by decide
    have e2 : nI k = nI 2 ↔ k = 2 := nI_eq (by omega) (by omega)
    try rw [zle, e6] at c_14
    refine x_top (y := cutF (nI k) wet) ?_ ?_
    · unfold cutF
      rw [ix_nI (by omega)]
      first | (rw [if_pos (by rw [e2]; omega)]; done) | (rw [hC.1 k (by omega), if_neg (by rw [e2]; omega)])
    refine x_ist4 (n := 29) dX12_rateOf_27 rfl (by decide) rfl ?_
    exact cutok
  · refine x_ild2 (n := 12) dX12_rateOf_11 rfl ?_
    refine x_bipush (n := 14) (v := nI 6) dX12_rateOf_12 rfl (by decide) ?_
    refine x_icmp_le (n := 17) (tgt := 21) dX12_rateOf_14 rfl (by decide) (fun c_14 => ?_) (fun c_14 => ?_)
    · refine x_ald0 (n := 22) dX12_rateOf_21 rfl ?_
      refine x_getR (n := 25) flX12_28 rfl dX12_rateOf_22 rfl (rK hZ) (rP_cutRate hZ) ?_
      refine x_ild3 (n := 26) dX12_rateOf_25 rfl ?_
      refine x_old (n := 27) dX12_rateOf_26 rfl (rA_cutRate hZ) (by decide) (Nat.le_of_ble_eq_true rfl) (by omega) ?_
      have e6 : (nI 6).toInt = 6 := by decide
      have e2 : nI k = nI 2 ↔ k = 2 := nI_eq (by omega) (by omega)
      try rw [zle, e6] at c_14
      refine x_top (y := cutF (nI k) wet) ?_ ?_
      · unfold cutF
        rw [ix_nI (by omega)]
        first | (rw [if_pos (by rw [e2]; omega)]; done) | (rw [hC.1 k (by omega), if_neg (by rw [e2]; omega)])
      refine x_ist4 (n := 29) dX12_rateOf_27 rfl (by decide) rfl ?_
      exact cutok
    · refine x_ic0 (n := 18) dX12_rateOf_17 rfl ?_
      refine x_goto (n := 27) dX12_rateOf_18 (by decide) ?_
      have e6 : (nI 6).toInt = 6 := by decide
      have e2 : nI k = nI 2 ↔ k = 2 := nI_eq (by omega) (by omega)
      try rw [zle, e6] at c_14
      refine x_top (y := cutF (nI k) wet) ?_ ?_
      · unfold cutF
        rw [ix_nI (by omega)]
        first | (rw [if_pos (by rw [e2]; omega)]; done) | (rw [hC.1 k (by omega), if_neg (by rw [e2]; omega)])
      refine x_ist4 (n := 29) dX12_rateOf_27 rfl (by decide) rfl ?_
      exact cutok
theorem c_X12_worthOf (hZ : ShR Z) (hB : InvB g) {w : Nat} (hw : w < vN g 1) (hq : Q (some (.int (gWorth g w))) Z (va_up I q_s g)) : zM l G mX12_worthOf 2 0 0 [.ref qR, .int (nI w)] Z (va_up I q_s g) Q := by
  have h1 := iv1 hB
  unfold gWorth at hq
  refine x_entry [some (.ref qR), some (.int (nI w)), none] 1 rfl rfl (Nat.le_of_ble_eq_true rfl) ?_
  have cutok : zX l G mX12_worthOf 2 0 0 15 [some (.ref qR), some (.int (nI w)), some (.int (if gStr g w = nI 0 then nI 10 else nI 5))] [] Z (va_up I q_s g) Q := by
    unfold worthF at hq
    refine x_ald0 (n := 16) dX12_worthOf_15 rfl ?_
    refine x_ild1 (n := 17) dX12_worthOf_16 rfl ?_
    refine x_cV1 (n := 20) (d' := 1) zcX12_kindOf mlX12_114 dX12_worthOf_17 rfl (rK hZ) (Nat.le_of_ble_eq_true rfl) (Nat.le_of_ble_eq_true rfl) ?_
    refine c_X12_kindOf hZ (by omega) ?_
    refine x_some ?_
    rcases zsw1_6 (g (120 + 10 * w)) with hsw | hsw | hsw | hsw | hsw | hsw | hsw
    · refine x_tswO (n := 75) dX12_worthOf_20 hsw (by decide) ?_
      refine x_ic5 (n := 76) dX12_worthOf_75 rfl ?_
      refine r_iret dX12_worthOf_76 rfl ?_
      rw [if_neg, if_neg, if_neg, if_neg, if_neg] at hq
      · exact hq
      all_goals (intro h9; rw [h9] at hsw; revert hsw; decide)
    · refine x_top hsw ?_
      refine x_tswI (n := 60) (off := 40) dX12_worthOf_20 (by decide) (by decide) (by decide +kernel) (by decide) ?_
      refine x_ild2 (n := 61) dX12_worthOf_60 rfl ?_
      refine r_iret dX12_worthOf_61 rfl ?_
      rw [if_pos hsw] at hq; exact hq
    · refine x_top hsw ?_
      refine x_tswI (n := 75) (off := 55) dX12_worthOf_20 (by decide) (by decide) (by decide +kernel) (by decide) ?_
      refine x_ic5 (n := 76) dX12_worthOf_75 rfl ?_
      refine r_iret dX12_worthOf_76 rfl ?_
      rw [if_neg, if_neg, if_neg, if_neg, if_neg] at hq
      · exact hq
      all_goals (intro h9; rw [h9] at hsw; revert hsw; decide)
    · refine x_top hsw ?_
      refine x_tswI (n := 62) (off := 42) dX12_worthOf_20 (by decide) (by decide) (by decide +kernel) (by decide) ?_
      refine x_ic4 (n := 63) dX12_worthOf_62 rfl ?_
      refine x_ild2 (n := 64) dX12_worthOf_63 rfl ?_
      refine x_imul (n := 65) dX12_worthOf_64 rfl ?_
      refine r_iret dX12_worthOf_65 rfl ?_
      rw [if_neg (by rw [hsw]; decide), if_pos hsw] at hq; exact hq
    · refine x_top hsw ?_
      refine x_tswI (n := 66) (off := 46) dX12_worthOf_20 (by decide) (by decide) (by decide +kernel) (by decide) ?_
      refine x_bipush (n := 68) (v := nI 9) dX12_worthOf_66 rfl (by decide) ?_
      refine r_iret dX12_worthOf_68 rfl ?_
      rw [if_neg (by rw [hsw]; decide), if_neg (by rw [hsw]; decide), if_pos hsw] at hq; exact hq
    · refine x_top hsw ?_
      refine x_tswI (n := 69) (off := 49) dX12_worthOf_20 (by decide) (by decide) (by decide +kernel) (by decide) ?_
      refine x_ild2 (n := 70) dX12_worthOf_69 rfl ?_
      refine x_ic2 (n := 71) dX12_worthOf_70 rfl ?_
      refine x_idiv (n := 72) dX12_worthOf_71 rfl (by decide) ?_
      refine r_iret dX12_worthOf_72 rfl ?_
      rw [if_neg (by rw [hsw]; decide), if_neg (by rw [hsw]; decide), if_neg (by rw [hsw]; decide), if_pos hsw] at hq; exact hq
    · refine x_top hsw ?_
      refine x_tswI (n := 73) (off := 53) dX12_worthOf_20 (by decide) (by decide) (by decide +kernel) (by decide) ?_
      refine x_ic2 (n := 74) dX12_worthOf_73 rfl ?_
      refine r_iret dX12_worthOf_74 rfl ?_
      rw [if_neg (by rw [hsw]; decide), if_neg (by rw [hsw]; decide), if_neg (by rw [hsw]; decide), if_neg (by rw [hsw]; decide), if_pos hsw] at hq; exact hq
  refine x_ald0 (n := 1) dX12_worthOf_0 rfl ?_
  refine x_ild1 (n := 2) dX12_worthOf_1 rfl ?_
  refine x_cV1 (n := 5) (d' := 1) zcX12_stratumOf mlX12_153 dX12_worthOf_2 rfl (rK hZ) (Nat.le_of_ble_eq_true rfl) (Nat.le_of_ble_eq_true rfl) ?_
  refine c_X12_stratumOf hZ hB hw ?_
  refine x_some ?_
  refine x_if_ne (n := 8) (tgt := 13) dX12_worthOf_5 rfl (by decide) (fun c_5 => ?_) (fun c_5 => ?_)
  · refine x_ic5 (n := 14) dX12_worthOf_13 rfl ?_
    refine x_top (y := if gStr g w = nI 0 then nI 10 else nI 5) ?_ ?_
    · first | exact (if_neg c_5).symm | exact (if_pos c_5).symm
    refine x_ist2 (n := 15) dX12_worthOf_14 rfl (by decide) rfl ?_
    exact cutok
  · refine x_bipush (n := 10) (v := nI 10) dX12_worthOf_8 rfl (by decide) ?_
    refine x_goto (n := 14) dX12_worthOf_10 (by decide) ?_
    refine x_top (y := if gStr g w = nI 0 then nI 10 else nI 5) ?_ ?_
    · first | exact (if_neg c_5).symm | exact (if_pos c_5).symm
    refine x_ist2 (n := 15) dX12_worthOf_14 rfl (by decide) rfl ?_
    exact cutok
theorem c_X12_joinedOf (hZ : ShR Z) {w : Nat} (hw : w < 24) (hq : Q (some (.int (gJoin g w))) Z (va_up I q_s g)) : zM l G mX12_joinedOf 1 0 0 [.ref qR, .int (nI w)] Z (va_up I q_s g) Q := by
  refine x_entry [some (.ref qR), some (.int (nI w)), none] 1 rfl rfl (Nat.le_of_ble_eq_true rfl) ?_
  refine x_ald0 (n := 1) dX12_joinedOf_0 rfl ?_
  refine x_ild1 (n := 2) dX12_joinedOf_1 rfl ?_
  refine x_cV1 (n := 5) (d' := 0) zcX12_workAt mlX12_93 dX12_joinedOf_2 rfl (rK hZ) (Nat.le_of_ble_eq_true rfl) (Nat.le_of_ble_eq_true rfl) ?_
  refine c_X12_workAt ?_
  refine x_some ?_
  refine x_ist2 (n := 6) dX12_joinedOf_5 rfl (by decide) rfl ?_
  refine x_ald0 (n := 7) dX12_joinedOf_6 rfl ?_
  refine x_getR (n := 10) flX12_7 rfl dX12_joinedOf_7 rfl (rK hZ) (rP_s hZ) ?_
  refine x_ild2 (n := 11) dX12_joinedOf_10 rfl ?_
  refine x_ic3 (n := 12) dX12_joinedOf_11 rfl ?_
  refine x_iaddN (n := 13) dX12_joinedOf_12 rfl ?_
  refine x_sld (n := 14) dX12_joinedOf_13 rfl hZ (by omega) ?_
  refine x_ald0 (n := 15) dX12_joinedOf_14 rfl ?_
  refine x_getR (n := 18) flX12_7 rfl dX12_joinedOf_15 rfl (rK hZ) (rP_s hZ) ?_
  refine x_ild2 (n := 19) dX12_joinedOf_18 rfl ?_
  refine x_bipush (n := 21) (v := nI 7) dX12_joinedOf_19 rfl (by decide) ?_
  refine x_iaddN (n := 22) dX12_joinedOf_21 rfl ?_
  refine x_sld (n := 23) dX12_joinedOf_22 rfl hZ (by omega) ?_
  refine x_ald0 (n := 24) dX12_joinedOf_23 rfl ?_
  refine x_getR (n := 27) flX12_7 rfl dX12_joinedOf_24 rfl (rK hZ) (rP_s hZ) ?_
  refine x_ild2 (n := 28) dX12_joinedOf_27 rfl ?_
  refine x_bipush (n := 30) (v := nI 7) dX12_joinedOf_28 rfl (by decide) ?_
  refine x_iaddN (n := 31) dX12_joinedOf_30 rfl ?_
  refine x_ic1 (n := 32) dX12_joinedOf_31 rfl ?_
  refine x_iaddN (n := 33) dX12_joinedOf_32 rfl ?_
  refine x_sld (n := 34) dX12_joinedOf_33 rfl hZ (by omega) ?_
  refine x_cS2 (n := 37) (d' := 0) zcX12_least mlX12_142 dX12_joinedOf_34 rfl (Nat.le_of_ble_eq_true rfl) (Nat.le_of_ble_eq_true rfl) ?_
  refine c_X12_least ?_
  refine x_some ?_
  refine x_cS2 (n := 40) (d' := 0) zcX12_least mlX12_142 dX12_joinedOf_37 rfl (Nat.le_of_ble_eq_true rfl) (Nat.le_of_ble_eq_true rfl) ?_
  refine c_X12_least ?_
  refine x_some ?_
  refine r_iret dX12_joinedOf_40 rfl ?_
  exact hq
theorem c_X12_told (hZ : ShR Z) (hC : RfC I) (hB : InvB g) {x y : Int32} (hq : Q (some (.int (f_told g x y))) Z (va_up I q_s g)) : zM l G mX12_told 3 0 0 [.ref qR, .int x, .int y] Z (va_up I q_s g) Q := by
  have h1 := iv1 hB
  have h8 := iv8 hB
  refine x_entry [some (.ref qR), some (.int x), some (.int y), none] 1 rfl rfl (Nat.le_of_ble_eq_true rfl) ?_
  unfold f_told at hq
  refine x_ald0 (n := 1) dX12_told_0 rfl ?_
  refine x_ild1 (n := 2) dX12_told_1 rfl ?_
  refine x_cV1 (n := 5) (d' := 1) zcX12_isWork mlX12_156 dX12_told_2 rfl (rK hZ) (Nat.le_of_ble_eq_true rfl) (Nat.le_of_ble_eq_true rfl) ?_
  refine c_X12_isWork hZ h1.1 (by omega) ?_
  refine x_some ?_
  refine x_zif_ne (n := 8) (tgt := 11) dX12_told_5 rfl (by decide) (fun c_5 => ?_) (fun c_5 => ?_)
  · obtain ⟨c, hc, rfl⟩ := z_chain c_5
    rw [ix_nI (by omega)] at hq
    refine x_ald0 (n := 12) dX12_told_11 rfl ?_
    refine x_ild1 (n := 13) dX12_told_12 rfl ?_
    refine x_cV1 (n := 16) (d' := 0) zcX12_workAt mlX12_93 dX12_told_13 rfl (rK hZ) (Nat.le_of_ble_eq_true rfl) (Nat.le_of_ble_eq_true rfl) ?_
    refine c_X12_workAt ?_
    refine x_some ?_
    refine x_ist3 (n := 17) dX12_told_16 rfl (by decide) rfl ?_
    refine x_ild2 (n := 18) dX12_told_17 rfl ?_
    rcases zsw0_12 (y) with hsw | hsw | hsw | hsw | hsw | hsw | hsw | hsw | hsw | hsw | hsw | hsw | hsw | hsw
    · refine x_tswO (n := 159) dX12_told_18 hsw (by decide) ?_
      refine x_ldc (n := 161) dX12_told_159 rfl kiX12_100 ?_
      refine r_iret dX12_told_161 rfl ?_
      rw [if_neg (by unfold zin; simp only [decide_eq_true_eq]; omega)] at hq; exact hq
    · refine x_top hsw ?_
      refine x_tswI (n := 84) (off := 66) dX12_told_18 (by decide) (by decide) (by decide +kernel) (by decide) ?_
      subst hsw
      refine x_ald0 (n := 85) dX12_told_84 rfl ?_
      refine x_getR (n := 88) flX12_7 rfl dX12_told_85 rfl (rK hZ) (rP_s hZ) ?_
      refine x_ild3 (n := 89) dX12_told_88 rfl ?_
      refine x_ild2 (n := 90) dX12_told_89 rfl ?_
      refine x_iaddN (n := 91) dX12_told_90 rfl ?_
      refine x_sld (n := 92) dX12_told_91 rfl hZ (by omega) ?_
      refine r_iret dX12_told_92 rfl ?_
      rw [if_pos ⟨c_5, by decide⟩, ix_nI (by decide)] at hq; exact hq
    · refine x_top hsw ?_
      refine x_tswI (n := 84) (off := 66) dX12_told_18 (by decide) (by decide) (by decide +kernel) (by decide) ?_
      subst hsw
      refine x_ald0 (n := 85) dX12_told_84 rfl ?_
      refine x_getR (n := 88) flX12_7 rfl dX12_told_85 rfl (rK hZ) (rP_s hZ) ?_
      refine x_ild3 (n := 89) dX12_told_88 rfl ?_
      refine x_ild2 (n := 90) dX12_told_89 rfl ?_
      refine x_iaddN (n := 91) dX12_told_90 rfl ?_
      refine x_sld (n := 92) dX12_told_91 rfl hZ (by omega) ?_
      refine r_iret dX12_told_92 rfl ?_
      rw [if_pos ⟨c_5, by decide⟩, ix_nI (by decide)] at hq; exact hq
    · refine x_top hsw ?_
      refine x_tswI (n := 84) (off := 66) dX12_told_18 (by decide) (by decide) (by decide +kernel) (by decide) ?_
      subst hsw
      refine x_ald0 (n := 85) dX12_told_84 rfl ?_
      refine x_getR (n := 88) flX12_7 rfl dX12_told_85 rfl (rK hZ) (rP_s hZ) ?_
      refine x_ild3 (n := 89) dX12_told_88 rfl ?_
      refine x_ild2 (n := 90) dX12_told_89 rfl ?_
      refine x_iaddN (n := 91) dX12_told_90 rfl ?_
      refine x_sld (n := 92) dX12_told_91 rfl hZ (by omega) ?_
      refine r_iret dX12_told_92 rfl ?_
      rw [if_pos ⟨c_5, by decide⟩, ix_nI (by decide)] at hq; exact hq
    · refine x_top hsw ?_
      refine x_tswI (n := 84) (off := 66) dX12_told_18 (by decide) (by decide) (by decide +kernel) (by decide) ?_
      subst hsw
      refine x_ald0 (n := 85) dX12_told_84 rfl ?_
      refine x_getR (n := 88) flX12_7 rfl dX12_told_85 rfl (rK hZ) (rP_s hZ) ?_
      refine x_ild3 (n := 89) dX12_told_88 rfl ?_
      refine x_ild2 (n := 90) dX12_told_89 rfl ?_
      refine x_iaddN (n := 91) dX12_told_90 rfl ?_
      refine x_sld (n := 92) dX12_told_91 rfl hZ (by omega) ?_
      refine r_iret dX12_told_92 rfl ?_
      rw [if_pos ⟨c_5, by decide⟩, ix_nI (by decide)] at hq; exact hq
    · refine x_top hsw ?_
      refine x_tswI (n := 93) (off := 75) dX12_told_18 (by decide) (by decide) (by decide +kernel) (by decide) ?_
      refine x_ald0 (n := 94) dX12_told_93 rfl ?_
      refine x_getR (n := 97) flX12_7 rfl dX12_told_94 rfl (rK hZ) (rP_s hZ) ?_
      refine x_ild3 (n := 98) dX12_told_97 rfl ?_
      refine x_ic4 (n := 99) dX12_told_98 rfl ?_
      refine x_iaddN (n := 100) dX12_told_99 rfl ?_
      refine x_sld (n := 101) dX12_told_100 rfl hZ (by omega) ?_
      refine x_cS1 (n := 104) (d' := 0) zcX12_orNone mlX12_159 dX12_told_101 rfl (Nat.le_of_ble_eq_true rfl) (Nat.le_of_ble_eq_true rfl) ?_
      refine c_X12_orNone ?_
      refine x_some ?_
      refine r_iret dX12_told_104 rfl ?_
      subst hsw; rw [if_pos ⟨c_5, by decide⟩, ix_nI (by decide)] at hq; exact hq
    · refine x_top hsw ?_
      refine x_tswI (n := 84) (off := 66) dX12_told_18 (by decide) (by decide) (by decide +kernel) (by decide) ?_
      subst hsw
      refine x_ald0 (n := 85) dX12_told_84 rfl ?_
      refine x_getR (n := 88) flX12_7 rfl dX12_told_85 rfl (rK hZ) (rP_s hZ) ?_
      refine x_ild3 (n := 89) dX12_told_88 rfl ?_
      refine x_ild2 (n := 90) dX12_told_89 rfl ?_
      refine x_iaddN (n := 91) dX12_told_90 rfl ?_
      refine x_sld (n := 92) dX12_told_91 rfl hZ (by omega) ?_
      refine r_iret dX12_told_92 rfl ?_
      rw [if_pos ⟨c_5, by decide⟩, ix_nI (by decide)] at hq; exact hq
    · refine x_top hsw ?_
      refine x_tswI (n := 84) (off := 66) dX12_told_18 (by decide) (by decide) (by decide +kernel) (by decide) ?_
      subst hsw
      refine x_ald0 (n := 85) dX12_told_84 rfl ?_
      refine x_getR (n := 88) flX12_7 rfl dX12_told_85 rfl (rK hZ) (rP_s hZ) ?_
      refine x_ild3 (n := 89) dX12_told_88 rfl ?_
      refine x_ild2 (n := 90) dX12_told_89 rfl ?_
      refine x_iaddN (n := 91) dX12_told_90 rfl ?_
      refine x_sld (n := 92) dX12_told_91 rfl hZ (by omega) ?_
      refine r_iret dX12_told_92 rfl ?_
      rw [if_pos ⟨c_5, by decide⟩, ix_nI (by decide)] at hq; exact hq
    · refine x_top hsw ?_
      refine x_tswI (n := 105) (off := 87) dX12_told_18 (by decide) (by decide) (by decide +kernel) (by decide) ?_
      refine x_ald0 (n := 106) dX12_told_105 rfl ?_
      refine x_ild1 (n := 107) dX12_told_106 rfl ?_
      refine x_ald0 (n := 108) dX12_told_107 rfl ?_
      refine x_ald0 (n := 109) dX12_told_108 rfl ?_
      refine x_getR (n := 112) flX12_7 rfl dX12_told_109 rfl (rK hZ) (rP_s hZ) ?_
      refine x_bipush (n := 114) (v := nI 8) dX12_told_112 rfl (by decide) ?_
      refine x_sld (n := 115) dX12_told_114 rfl hZ (by omega) ?_
      rw [h8.1]
      refine x_cV1 (n := 118) (d' := 0) zcX12_wetOn mlX12_162 dX12_told_115 rfl (rK hZ) (Nat.le_of_ble_eq_true rfl) (Nat.le_of_ble_eq_true rfl) ?_
      refine c_X12_wetOn hZ (by omega) ?_
      refine x_some ?_
      refine x_cV2 (n := 121) (d' := 2) zcX12_rateOf mlX12_165 dX12_told_118 rfl (rK hZ) (Nat.le_of_ble_eq_true rfl) (Nat.le_of_ble_eq_true rfl) ?_
      refine c_X12_rateOf hZ hC hB hc ?_
      refine x_some ?_
      refine r_iret dX12_told_121 rfl ?_
      subst hsw; rw [if_pos ⟨c_5, by decide⟩, ix_nI (by decide)] at hq; exact hq
    · refine x_top hsw ?_
      refine x_tswI (n := 122) (off := 104) dX12_told_18 (by decide) (by decide) (by decide +kernel) (by decide) ?_
      refine x_ald0 (n := 123) dX12_told_122 rfl ?_
      refine x_ild1 (n := 124) dX12_told_123 rfl ?_
      refine x_cV1 (n := 127) (d' := 2) zcX12_worthOf mlX12_168 dX12_told_124 rfl (rK hZ) (Nat.le_of_ble_eq_true rfl) (Nat.le_of_ble_eq_true rfl) ?_
      refine c_X12_worthOf hZ hB hc ?_
      refine x_some ?_
      refine r_iret dX12_told_127 rfl ?_
      subst hsw; rw [if_pos ⟨c_5, by decide⟩, ix_nI (by decide)] at hq; exact hq
    · refine x_top hsw ?_
      refine x_tswI (n := 128) (off := 110) dX12_told_18 (by decide) (by decide) (by decide +kernel) (by decide) ?_
      subst hsw
      refine x_ald0 (n := 129) dX12_told_128 rfl ?_
      refine x_getR (n := 132) flX12_7 rfl dX12_told_129 rfl (rK hZ) (rP_s hZ) ?_
      refine x_ild3 (n := 133) dX12_told_132 rfl ?_
      refine x_bipush (n := 135) (v := nI 7) dX12_told_133 rfl (by decide) ?_
      refine x_iaddN (n := 136) dX12_told_135 rfl ?_
      refine x_ild2 (n := 137) dX12_told_136 rfl ?_
      refine x_iaddN (n := 138) dX12_told_137 rfl ?_
      refine x_bipush (n := 140) (v := nI 9) dX12_told_138 rfl (by decide) ?_
      refine x_isubN (n := 141) dX12_told_140 rfl (by omega) ?_
      refine x_sld (n := 142) dX12_told_141 rfl hZ (by omega) ?_
      refine r_iret dX12_told_142 rfl ?_
      rw [if_pos ⟨c_5, by decide⟩, ix_nI (by decide)] at hq; first | (rw [show 120 + 10 * c + 7 + 9 - 9 = 120 + 10 * c + 7 by omega]; exact hq) | (rw [show 120 + 10 * c + 7 + 10 - 9 = 120 + 10 * c + 8 by omega]; exact hq)
    · refine x_top hsw ?_
      refine x_tswI (n := 128) (off := 110) dX12_told_18 (by decide) (by decide) (by decide +kernel) (by decide) ?_
      subst hsw
      refine x_ald0 (n := 129) dX12_told_128 rfl ?_
      refine x_getR (n := 132) flX12_7 rfl dX12_told_129 rfl (rK hZ) (rP_s hZ) ?_
      refine x_ild3 (n := 133) dX12_told_132 rfl ?_
      refine x_bipush (n := 135) (v := nI 7) dX12_told_133 rfl (by decide) ?_
      refine x_iaddN (n := 136) dX12_told_135 rfl ?_
      refine x_ild2 (n := 137) dX12_told_136 rfl ?_
      refine x_iaddN (n := 138) dX12_told_137 rfl ?_
      refine x_bipush (n := 140) (v := nI 9) dX12_told_138 rfl (by decide) ?_
      refine x_isubN (n := 141) dX12_told_140 rfl (by omega) ?_
      refine x_sld (n := 142) dX12_told_141 rfl hZ (by omega) ?_
      refine r_iret dX12_told_142 rfl ?_
      rw [if_pos ⟨c_5, by decide⟩, ix_nI (by decide)] at hq; first | (rw [show 120 + 10 * c + 7 + 9 - 9 = 120 + 10 * c + 7 by omega]; exact hq) | (rw [show 120 + 10 * c + 7 + 10 - 9 = 120 + 10 * c + 8 by omega]; exact hq)
    · refine x_top hsw ?_
      refine x_tswI (n := 143) (off := 125) dX12_told_18 (by decide) (by decide) (by decide +kernel) (by decide) ?_
      refine x_ald0 (n := 144) dX12_told_143 rfl ?_
      refine x_ild1 (n := 145) dX12_told_144 rfl ?_
      refine x_cV1 (n := 148) (d' := 1) zcX12_joinedOf mlX12_171 dX12_told_145 rfl (rK hZ) (Nat.le_of_ble_eq_true rfl) (Nat.le_of_ble_eq_true rfl) ?_
      refine c_X12_joinedOf hZ (by omega) ?_
      refine x_some ?_
      refine r_iret dX12_told_148 rfl ?_
      subst hsw; rw [if_pos ⟨c_5, by decide⟩, ix_nI (by decide)] at hq; exact hq
    · refine x_top hsw ?_
      refine x_tswI (n := 149) (off := 131) dX12_told_18 (by decide) (by decide) (by decide +kernel) (by decide) ?_
      refine x_ald0 (n := 150) dX12_told_149 rfl ?_
      refine x_getR (n := 153) flX12_7 rfl dX12_told_150 rfl (rK hZ) (rP_s hZ) ?_
      refine x_ild3 (n := 154) dX12_told_153 rfl ?_
      refine x_bipush (n := 156) (v := nI 9) dX12_told_154 rfl (by decide) ?_
      refine x_iaddN (n := 157) dX12_told_156 rfl ?_
      refine x_sld (n := 158) dX12_told_157 rfl hZ (by omega) ?_
      refine r_iret dX12_told_158 rfl ?_
      subst hsw; rw [if_pos ⟨c_5, by decide⟩, ix_nI (by decide)] at hq; exact hq
  · refine x_ldc (n := 10) dX12_told_8 rfl kiX12_100 ?_
    refine r_iret dX12_told_10 rfl ?_
    rw [if_neg (by grind)] at hq; exact hq
theorem c_X12_as (hZ : ShR Z) (hB : InvB g) {x y : Int32} (hq : Q (some (.int (f_as g x y))) Z (va_up I q_s g)) : zM l G mX12_as 2 0 0 [.ref qR, .int x, .int y] Z (va_up I q_s g) Q := by
  have h1 := iv1 hB
  refine x_entry [some (.ref qR), some (.int x), some (.int y), none] 1 rfl rfl (Nat.le_of_ble_eq_true rfl) ?_
  refine x_ald0 (n := 1) dX12_as_0 rfl ?_
  refine x_ild1 (n := 2) dX12_as_1 rfl ?_
  refine x_cV1 (n := 5) (d' := 1) zcX12_isWork mlX12_156 dX12_as_2 rfl (rK hZ) (Nat.le_of_ble_eq_true rfl) (Nat.le_of_ble_eq_true rfl) ?_
  refine c_X12_isWork hZ h1.1 (by omega) ?_
  refine x_some ?_
  refine x_zif_eq (n := 8) (tgt := 20) dX12_as_5 rfl (by decide) (fun c_5 => ?_) (fun c_5 => ?_)
  · refine x_ldc (n := 22) dX12_as_20 rfl kiX12_100 ?_
    refine r_iret dX12_as_22 rfl ?_
    unfold f_as at hq; rw [if_neg (by grind)] at hq; exact hq
  · refine x_ild2 (n := 9) dX12_as_8 rfl ?_
    refine x_i2l (n := 10) dX12_as_9 rfl ?_
    refine x_lconst (n := 11) (v := 0) dX12_as_10 rfl (by decide) ?_
    refine x_ldc2 (n := 14) dX12_as_11 rfl klX12_145 ?_
    refine x_cS3 (n := 17) (d' := 0) zcX12_isIn mlX12_89 dX12_as_14 rfl (Nat.le_of_ble_eq_true rfl) (Nat.le_of_ble_eq_true rfl) ?_
    refine c_X12_isIn (zin y 0 6) (by unfold zin; rw [zI64]; rfl) ?_
    refine x_some ?_
    refine x_zif_ne (n := 20) (tgt := 23) dX12_as_17 rfl (by decide) (fun c_17 => ?_) (fun c_17 => ?_)
    · unfold f_as at hq
      rw [if_pos ⟨c_5, c_17⟩] at hq
      obtain ⟨c, hc, rfl⟩ := z_chain c_5
      rw [ix_nI (by omega)] at hq
      refine x_ald0 (n := 24) dX12_as_23 rfl ?_
      refine x_ild1 (n := 25) dX12_as_24 rfl ?_
      refine x_cV1 (n := 28) (d' := 1) zcX12_kindOf mlX12_114 dX12_as_25 rfl (rK hZ) (Nat.le_of_ble_eq_true rfl) (Nat.le_of_ble_eq_true rfl) ?_
      refine c_X12_kindOf hZ (by omega) ?_
      refine x_some ?_
      refine x_ist3 (n := 29) dX12_as_28 rfl (by decide) rfl ?_
      refine x_ild2 (n := 30) dX12_as_29 rfl ?_
      refine x_if_eq (n := 33) (tgt := 53) dX12_as_30 rfl (by decide) (fun c_30 => ?_) (fun c_30 => ?_)
      · refine x_ald0 (n := 54) dX12_as_53 rfl ?_
        refine x_getR (n := 57) flX12_7 rfl dX12_as_54 rfl (rK hZ) (rP_s hZ) ?_
        refine x_ald0 (n := 58) dX12_as_57 rfl ?_
        refine x_ild1 (n := 59) dX12_as_58 rfl ?_
        refine x_cV1 (n := 62) (d' := 0) zcX12_workAt mlX12_93 dX12_as_59 rfl (rK hZ) (Nat.le_of_ble_eq_true rfl) (Nat.le_of_ble_eq_true rfl) ?_
        refine c_X12_workAt ?_
        refine x_some ?_
        refine x_ic2 (n := 63) dX12_as_62 rfl ?_
        refine x_iaddN (n := 64) dX12_as_63 rfl ?_
        refine x_sld (n := 65) dX12_as_64 rfl hZ (by omega) ?_
        refine x_goto (n := 70) dX12_as_65 (by decide) ?_
        refine r_iret dX12_as_70 rfl ?_
        unfold underF at hq
        have e0 : (0 : Int32) = nI 0 := rfl
        first | (rw [if_pos (decide_eq_true (by grind))] at hq; exact hq) | (rw [if_neg (by rw [decide_eq_true_eq]; grind)] at hq; exact hq)
      · refine x_ild2 (n := 34) dX12_as_33 rfl ?_
        refine x_ild3 (n := 35) dX12_as_34 rfl ?_
        refine x_icmp_eq (n := 38) (tgt := 53) dX12_as_35 rfl (by decide) (fun c_35 => ?_) (fun c_35 => ?_)
        · refine x_ald0 (n := 54) dX12_as_53 rfl ?_
          refine x_getR (n := 57) flX12_7 rfl dX12_as_54 rfl (rK hZ) (rP_s hZ) ?_
          refine x_ald0 (n := 58) dX12_as_57 rfl ?_
          refine x_ild1 (n := 59) dX12_as_58 rfl ?_
          refine x_cV1 (n := 62) (d' := 0) zcX12_workAt mlX12_93 dX12_as_59 rfl (rK hZ) (Nat.le_of_ble_eq_true rfl) (Nat.le_of_ble_eq_true rfl) ?_
          refine c_X12_workAt ?_
          refine x_some ?_
          refine x_ic2 (n := 63) dX12_as_62 rfl ?_
          refine x_iaddN (n := 64) dX12_as_63 rfl ?_
          refine x_sld (n := 65) dX12_as_64 rfl hZ (by omega) ?_
          refine x_goto (n := 70) dX12_as_65 (by decide) ?_
          refine r_iret dX12_as_70 rfl ?_
          unfold underF at hq
          have e0 : (0 : Int32) = nI 0 := rfl
          first | (rw [if_pos (decide_eq_true (by grind))] at hq; exact hq) | (rw [if_neg (by rw [decide_eq_true_eq]; grind)] at hq; exact hq)
        · refine x_ild2 (n := 39) dX12_as_38 rfl ?_
          refine x_ic1 (n := 40) dX12_as_39 rfl ?_
          refine x_icmp_ne (n := 43) (tgt := 68) dX12_as_40 rfl (by decide) (fun c_40 => ?_) (fun c_40 => ?_)
          · refine x_ldc (n := 70) dX12_as_68 rfl kiX12_174 ?_
            refine r_iret dX12_as_70 rfl ?_
            unfold underF at hq
            have e0 : (0 : Int32) = nI 0 := rfl
            first | (rw [if_pos (decide_eq_true (by grind))] at hq; exact hq) | (rw [if_neg (by rw [decide_eq_true_eq]; grind)] at hq; exact hq)
          · refine x_ild3 (n := 44) dX12_as_43 rfl ?_
            refine x_ic3 (n := 45) dX12_as_44 rfl ?_
            refine x_icmp_eq (n := 48) (tgt := 53) dX12_as_45 rfl (by decide) (fun c_45 => ?_) (fun c_45 => ?_)
            · refine x_ald0 (n := 54) dX12_as_53 rfl ?_
              refine x_getR (n := 57) flX12_7 rfl dX12_as_54 rfl (rK hZ) (rP_s hZ) ?_
              refine x_ald0 (n := 58) dX12_as_57 rfl ?_
              refine x_ild1 (n := 59) dX12_as_58 rfl ?_
              refine x_cV1 (n := 62) (d' := 0) zcX12_workAt mlX12_93 dX12_as_59 rfl (rK hZ) (Nat.le_of_ble_eq_true rfl) (Nat.le_of_ble_eq_true rfl) ?_
              refine c_X12_workAt ?_
              refine x_some ?_
              refine x_ic2 (n := 63) dX12_as_62 rfl ?_
              refine x_iaddN (n := 64) dX12_as_63 rfl ?_
              refine x_sld (n := 65) dX12_as_64 rfl hZ (by omega) ?_
              refine x_goto (n := 70) dX12_as_65 (by decide) ?_
              refine r_iret dX12_as_70 rfl ?_
              unfold underF at hq
              have e0 : (0 : Int32) = nI 0 := rfl
              first | (rw [if_pos (decide_eq_true (by grind))] at hq; exact hq) | (rw [if_neg (by rw [decide_eq_true_eq]; grind)] at hq; exact hq)
            · refine x_ild3 (n := 49) dX12_as_48 rfl ?_
              refine x_ic5 (n := 50) dX12_as_49 rfl ?_
              refine x_icmp_ne (n := 53) (tgt := 68) dX12_as_50 rfl (by decide) (fun c_50 => ?_) (fun c_50 => ?_)
              · refine x_ldc (n := 70) dX12_as_68 rfl kiX12_174 ?_
                refine r_iret dX12_as_70 rfl ?_
                unfold underF at hq
                have e0 : (0 : Int32) = nI 0 := rfl
                first | (rw [if_pos (decide_eq_true (by grind))] at hq; exact hq) | (rw [if_neg (by rw [decide_eq_true_eq]; grind)] at hq; exact hq)
              · refine x_ald0 (n := 54) dX12_as_53 rfl ?_
                refine x_getR (n := 57) flX12_7 rfl dX12_as_54 rfl (rK hZ) (rP_s hZ) ?_
                refine x_ald0 (n := 58) dX12_as_57 rfl ?_
                refine x_ild1 (n := 59) dX12_as_58 rfl ?_
                refine x_cV1 (n := 62) (d' := 0) zcX12_workAt mlX12_93 dX12_as_59 rfl (rK hZ) (Nat.le_of_ble_eq_true rfl) (Nat.le_of_ble_eq_true rfl) ?_
                refine c_X12_workAt ?_
                refine x_some ?_
                refine x_ic2 (n := 63) dX12_as_62 rfl ?_
                refine x_iaddN (n := 64) dX12_as_63 rfl ?_
                refine x_sld (n := 65) dX12_as_64 rfl hZ (by omega) ?_
                refine x_goto (n := 70) dX12_as_65 (by decide) ?_
                refine r_iret dX12_as_70 rfl ?_
                unfold underF at hq
                have e0 : (0 : Int32) = nI 0 := rfl
                first | (rw [if_pos (decide_eq_true (by grind))] at hq; exact hq) | (rw [if_neg (by rw [decide_eq_true_eq]; grind)] at hq; exact hq)
    · refine x_ldc (n := 22) dX12_as_20 rfl kiX12_100 ?_
      refine r_iret dX12_as_22 rfl ?_
      unfold f_as at hq; rw [if_neg (by grind)] at hq; exact hq
theorem c_X12_ahead (hZ : ShR Z) (hB : InvB g) {x v : Int32} (hq : Q (some (.int (f_ahead g x v).1)) Z (va_up I q_s (f_ahead g x v).2)) : zM l G mX12_ahead 2 0 0 [.ref qR, .int x, .int v] Z (va_up I q_s g) Q := by
  have h1 := iv1 hB
  refine x_entry [some (.ref qR), some (.int x), some (.int v)] 0 rfl rfl (Nat.le_of_ble_eq_true rfl) ?_
  unfold f_ahead at hq
  refine x_ald0 (n := 1) dX12_ahead_0 rfl ?_
  refine x_ild1 (n := 2) dX12_ahead_1 rfl ?_
  refine x_cV1 (n := 5) (d' := 1) zcX12_isWork mlX12_156 dX12_ahead_2 rfl (rK hZ) (Nat.le_of_ble_eq_true rfl) (Nat.le_of_ble_eq_true rfl) ?_
  refine c_X12_isWork hZ h1.1 (by omega) ?_
  refine x_some ?_
  refine x_zif_eq (n := 8) (tgt := 35) dX12_ahead_5 rfl (by decide) (fun c_5 => ?_) (fun c_5 => ?_)
  · rw [if_neg (by grind)] at hq
    refine x_ldc (n := 37) dX12_ahead_35 rfl kiX12_100 ?_
    refine r_iret dX12_ahead_37 rfl ?_
    exact hq
  · refine x_ild2 (n := 9) dX12_ahead_8 rfl ?_
    refine x_i2l (n := 10) dX12_ahead_9 rfl ?_
    refine x_lconst (n := 11) (v := 0) dX12_ahead_10 rfl (by decide) ?_
    refine x_ldc2 (n := 14) dX12_ahead_11 rfl klX12_175 ?_
    refine x_cS3 (n := 17) (d' := 0) zcX12_isIn mlX12_89 dX12_ahead_14 rfl (Nat.le_of_ble_eq_true rfl) (Nat.le_of_ble_eq_true rfl) ?_
    refine c_X12_isIn (zin v 0 16777215) (by unfold zin; rw [zI64]; rfl) ?_
    refine x_some ?_
    refine x_zif_eq (n := 20) (tgt := 35) dX12_ahead_17 rfl (by decide) (fun c_17 => ?_) (fun c_17 => ?_)
    · rw [if_neg (by grind)] at hq
      refine x_ldc (n := 37) dX12_ahead_35 rfl kiX12_100 ?_
      refine r_iret dX12_ahead_37 rfl ?_
      exact hq
    · rw [if_pos ⟨c_5, c_17⟩] at hq
      obtain ⟨c, hc, rfl⟩ := z_chain c_5
      rw [ix_nI (by omega)] at hq
      refine x_ald0 (n := 21) dX12_ahead_20 rfl ?_
      refine x_ald0 (n := 22) dX12_ahead_21 rfl ?_
      refine x_ild1 (n := 23) dX12_ahead_22 rfl ?_
      refine x_cV1 (n := 26) (d' := 0) zcX12_workAt mlX12_93 dX12_ahead_23 rfl (rK hZ) (Nat.le_of_ble_eq_true rfl) (Nat.le_of_ble_eq_true rfl) ?_
      refine c_X12_workAt ?_
      refine x_some ?_
      refine x_ic5 (n := 27) dX12_ahead_26 rfl ?_
      refine x_iaddN (n := 28) dX12_ahead_27 rfl ?_
      refine x_ild2 (n := 29) dX12_ahead_28 rfl ?_
      refine x_cV2 (n := 32) (d' := 0) zcX12_becomes mlX12_110 dX12_ahead_29 rfl (rK hZ) (Nat.le_of_ble_eq_true rfl) (Nat.le_of_ble_eq_true rfl) ?_
      refine c_X12_becomes hZ (by omega) ?_
      refine x_some ?_
      refine x_goto (n := 37) dX12_ahead_32 (by decide) ?_
      refine r_iret dX12_ahead_37 rfl ?_
      exact hq
theorem c_X12_days (hZ : ShR Z) (hB : InvB g) {x v : Int32} (hq : Q (some (.int (f_days g x v).1)) Z (va_up I q_s (f_days g x v).2)) : zM l G mX12_days 2 0 0 [.ref qR, .int x, .int v] Z (va_up I q_s g) Q := by
  have h1 := iv1 hB
  refine x_entry [some (.ref qR), some (.int x), some (.int v)] 0 rfl rfl (Nat.le_of_ble_eq_true rfl) ?_
  unfold f_days at hq
  refine x_ald0 (n := 1) dX12_days_0 rfl ?_
  refine x_ild1 (n := 2) dX12_days_1 rfl ?_
  refine x_cV1 (n := 5) (d' := 1) zcX12_isWork mlX12_156 dX12_days_2 rfl (rK hZ) (Nat.le_of_ble_eq_true rfl) (Nat.le_of_ble_eq_true rfl) ?_
  refine c_X12_isWork hZ h1.1 (by omega) ?_
  refine x_some ?_
  refine x_zif_eq (n := 8) (tgt := 36) dX12_days_5 rfl (by decide) (fun c_5 => ?_) (fun c_5 => ?_)
  · rw [if_neg (by grind)] at hq
    refine x_ldc (n := 38) dX12_days_36 rfl kiX12_100 ?_
    refine r_iret dX12_days_38 rfl ?_
    exact hq
  · refine x_ild2 (n := 9) dX12_days_8 rfl ?_
    refine x_i2l (n := 10) dX12_days_9 rfl ?_
    refine x_lconst (n := 11) (v := 1) dX12_days_10 rfl (by decide) ?_
    refine x_ldc2 (n := 14) dX12_days_11 rfl klX12_108 ?_
    refine x_cS3 (n := 17) (d' := 0) zcX12_isIn mlX12_89 dX12_days_14 rfl (Nat.le_of_ble_eq_true rfl) (Nat.le_of_ble_eq_true rfl) ?_
    refine c_X12_isIn (zin v 1 99) (by unfold zin; rw [zI64]; rfl) ?_
    refine x_some ?_
    refine x_zif_eq (n := 20) (tgt := 36) dX12_days_17 rfl (by decide) (fun c_17 => ?_) (fun c_17 => ?_)
    · rw [if_neg (by grind)] at hq
      refine x_ldc (n := 38) dX12_days_36 rfl kiX12_100 ?_
      refine r_iret dX12_days_38 rfl ?_
      exact hq
    · rw [if_pos ⟨c_5, c_17⟩] at hq
      obtain ⟨c, hc, rfl⟩ := z_chain c_5
      rw [ix_nI (by omega)] at hq
      refine x_ald0 (n := 21) dX12_days_20 rfl ?_
      refine x_ald0 (n := 22) dX12_days_21 rfl ?_
      refine x_ild1 (n := 23) dX12_days_22 rfl ?_
      refine x_cV1 (n := 26) (d' := 0) zcX12_workAt mlX12_93 dX12_days_23 rfl (rK hZ) (Nat.le_of_ble_eq_true rfl) (Nat.le_of_ble_eq_true rfl) ?_
      refine c_X12_workAt ?_
      refine x_some ?_
      refine x_bipush (n := 28) (v := nI 6) dX12_days_26 rfl (by decide) ?_
      refine x_iaddN (n := 29) dX12_days_28 rfl ?_
      refine x_ild2 (n := 30) dX12_days_29 rfl ?_
      refine x_cV2 (n := 33) (d' := 0) zcX12_becomes mlX12_110 dX12_days_30 rfl (rK hZ) (Nat.le_of_ble_eq_true rfl) (Nat.le_of_ble_eq_true rfl) ?_
      refine c_X12_becomes hZ (by omega) ?_
      refine x_some ?_
      refine x_goto (n := 38) dX12_days_33 (by decide) ?_
      refine r_iret dX12_days_38 rfl ?_
      exact hq
theorem c_X12_wet (hZ : ShR Z) {x v : Int32} (hq : Q (some (.int (f_wet g x v).1)) Z (va_up I q_s (f_wet g x v).2)) : zM l G mX12_wet 1 0 0 [.ref qR, .int x, .int v] Z (va_up I q_s g) Q := by
  refine x_entry [some (.ref qR), some (.int x), some (.int v)] 0 rfl rfl (Nat.le_of_ble_eq_true rfl) ?_
  unfold f_wet at hq
  refine x_ild1 (n := 1) dX12_wet_0 rfl ?_
  refine x_i2l (n := 2) dX12_wet_1 rfl ?_
  refine x_lconst (n := 3) (v := 0) dX12_wet_2 rfl (by decide) ?_
  refine x_ldc2 (n := 6) dX12_wet_3 rfl klX12_180 ?_
  refine x_cS3 (n := 9) (d' := 0) zcX12_isIn mlX12_89 dX12_wet_6 rfl (Nat.le_of_ble_eq_true rfl) (Nat.le_of_ble_eq_true rfl) ?_
  refine c_X12_isIn (zin x 0 1999) (by unfold zin; rw [zI64]; rfl) ?_
  refine x_some ?_
  refine x_zif_eq (n := 12) (tgt := 37) dX12_wet_9 rfl (by decide) (fun c_9 => ?_) (fun c_9 => ?_)
  · rw [if_neg (by grind)] at hq
    refine x_ldc (n := 39) dX12_wet_37 rfl kiX12_100 ?_
    refine r_iret dX12_wet_39 rfl ?_
    exact hq
  · refine x_ild2 (n := 13) dX12_wet_12 rfl ?_
    refine x_i2l (n := 14) dX12_wet_13 rfl ?_
    refine x_lconst (n := 15) (v := 0) dX12_wet_14 rfl (by decide) ?_
    refine x_ldc2 (n := 18) dX12_wet_15 rfl klX12_182 ?_
    refine x_cS3 (n := 21) (d' := 0) zcX12_isIn mlX12_89 dX12_wet_18 rfl (Nat.le_of_ble_eq_true rfl) (Nat.le_of_ble_eq_true rfl) ?_
    refine c_X12_isIn (zin v 0 9) (by unfold zin; rw [zI64]; rfl) ?_
    refine x_some ?_
    refine x_zif_eq (n := 24) (tgt := 37) dX12_wet_21 rfl (by decide) (fun c_21 => ?_) (fun c_21 => ?_)
    · rw [if_neg (by grind)] at hq
      refine x_ldc (n := 39) dX12_wet_37 rfl kiX12_100 ?_
      refine r_iret dX12_wet_39 rfl ?_
      exact hq
    · rw [if_pos ⟨c_9, c_21⟩] at hq
      obtain ⟨c, hc, hc2, rfl⟩ := z_num 2000 c_9 (by omega)
      rw [ix_nI (by omega)] at hq
      refine x_ald0 (n := 25) dX12_wet_24 rfl ?_
      refine x_sipush (n := 28) (v := nI 510) dX12_wet_25 rfl (by decide) ?_
      refine x_ild1 (n := 29) dX12_wet_28 rfl ?_
      refine x_iaddN (n := 30) dX12_wet_29 rfl ?_
      refine x_ild2 (n := 31) dX12_wet_30 rfl ?_
      refine x_cV2 (n := 34) (d' := 0) zcX12_becomes mlX12_110 dX12_wet_31 rfl (rK hZ) (Nat.le_of_ble_eq_true rfl) (Nat.le_of_ble_eq_true rfl) ?_
      refine c_X12_becomes hZ (by omega) ?_
      refine x_some ?_
      refine x_goto (n := 39) dX12_wet_34 (by decide) ?_
      refine r_iret dX12_wet_39 rfl ?_
      exact hq
end
