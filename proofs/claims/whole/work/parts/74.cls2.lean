section
variable {l : Launch} {G : zG} {Z : zS} {I : zI} {g : Nat → Int32} {mk b : Nat} {Q : Option Value → zS → zI → Prop}
theorem mmin_eq (x y : Int32) : (if y < x then y else x) = minI x y := by
  unfold minI
  by_cases h : y < x
  · rw [if_pos h, if_neg (by rw [zlt] at h; omega)]
  · rw [if_neg h]
    by_cases h2 : x.toInt < y.toInt
    · rw [if_pos h2]
    · rw [if_neg h2]; rw [zlt] at h; exact Int32.toInt_inj.mp (by omega)
theorem cutr_t {j : Nat} (hj : j < 4) : (zst_CUT_RATES.2.2.2.getD (nI j).toNatClampNeg 0) = nI ([1, 3, 2, 3].getD j 0) := by
  rcases (by omega : j = 0 ∨ j = 1 ∨ j = 2 ∨ j = 3) with rfl | rfl | rfl | rfl <;> decide
theorem c_X9_cutRate {k : Nat} {wet : Int32} (hk : k < 4) (hq : Q (some (.int (cutF (nI k) wet))) Z I) : zM l G mX9_cutRate 1 0 0 [.int (nI k), .int wet] Z I Q := by
  refine x_entry [some (.int (nI k)), some (.int wet)] 0 rfl rfl (Nat.le_of_ble_eq_true rfl) ?_
  have e6 : (nI 6).toInt = 6 := by decide
  have e2 : nI k = nI 2 ↔ k = 2 := nI_eq (by omega) (by omega)
  have hkI : (nI k).toInt = (k : Int) := nI_toInt (by omega)
  unfold cutF at hq
  rw [ix_nI (by omega)] at hq
  refine x_ild0 (n := 1) dX9_cutRate_0 rfl ?_
  refine x_ic0 (n := 2) dX9_cutRate_1 rfl ?_
  refine x_gets (n := 5) (q := zst_CUT_RATES) dX9_cutRate_2 rfl (by decide) fsX9_52 ?_
  refine x_tlen (n := 6) (q := zst_CUT_RATES) (v := nI 4) dX9_cutRate_5 rfl (by decide) rfl rfl ?_
  refine x_ic1 (n := 7) dX9_cutRate_6 rfl ?_
  refine x_isubN (n := 8) dX9_cutRate_7 rfl (by omega) ?_
  refine x_cN3 (n := 11) (d' := 0) zcX11_inside mnX9_44 dX9_cutRate_8 rfl (Nat.le_of_ble_eq_true rfl) (Nat.le_of_ble_eq_true rfl) ?_
  refine c_X11_inside true (by refine (decide_eq_true ?_).symm; rw [hkI]; exact ⟨by show (0 : Int) ≤ _; omega, by show _ ≤ (3 : Int); omega⟩) ?_
  refine x_some ?_
  refine x_if_eq (n := 14) (tgt := 25) dX9_cutRate_11 rfl (by decide) (fun c_11 => ?_) (fun c_11 => ?_)
  · exact absurd c_11 (by decide)
  · refine x_ild0 (n := 15) dX9_cutRate_14 rfl ?_
    refine x_ic2 (n := 16) dX9_cutRate_15 rfl ?_
    refine x_icmpN_ne (n := 19) (tgt := 27) dX9_cutRate_16 rfl (by decide) (by omega) (by omega) (fun c_16 => ?_) (fun c_16 => ?_)
    · refine x_gets (n := 30) (q := zst_CUT_RATES) dX9_cutRate_27 rfl (by decide) fsX9_52 ?_
      refine x_ild0 (n := 31) dX9_cutRate_30 rfl ?_
      refine x_tald (n := 32) (q := zst_CUT_RATES) dX9_cutRate_31 rfl (by decide) rfl (vp_in_nI (N := 4) (by first | decide | omega) (by decide)) ?_
      refine r_iret dX9_cutRate_32 rfl ?_
      (try rw [zle, e6] at c_22)
      rw [cutr_t (by omega)]
      rw [if_neg (by rw [e2]; omega)] at hq; exact hq
    · refine x_ild1 (n := 20) dX9_cutRate_19 rfl ?_
      refine x_bipush (n := 22) (v := nI 6) dX9_cutRate_20 rfl (by decide) ?_
      refine x_icmp_le (n := 25) (tgt := 27) dX9_cutRate_22 rfl (by decide) (fun c_22 => ?_) (fun c_22 => ?_)
      · refine x_gets (n := 30) (q := zst_CUT_RATES) dX9_cutRate_27 rfl (by decide) fsX9_52 ?_
        refine x_ild0 (n := 31) dX9_cutRate_30 rfl ?_
        refine x_tald (n := 32) (q := zst_CUT_RATES) dX9_cutRate_31 rfl (by decide) rfl (vp_in_nI (N := 4) (by first | decide | omega) (by decide)) ?_
        refine r_iret dX9_cutRate_32 rfl ?_
        (try rw [zle, e6] at c_22)
        rw [cutr_t (by omega)]
        rw [if_neg (by rw [e2]; omega)] at hq; exact hq
      · refine x_ic0 (n := 26) dX9_cutRate_25 rfl ?_
        refine r_iret dX9_cutRate_26 rfl ?_
        rw [zle, e6] at c_22; rw [if_pos (by rw [e2]; omega)] at hq; exact hq
theorem c_X9_rateIn (hW : ShW Z b) {k : Nat} {wet : Int32} (hk : k < 4) (hq : Q (some (.int (rateF (I b 0) (nI k) wet))) Z I) : zM l G mX9_rateIn 2 0 0 [.ref b, .int (nI k), .int wet] Z I Q := by
  refine x_entry [some (.ref b), some (.int (nI k)), some (.int wet)] 0 rfl rfl (Nat.le_of_ble_eq_true rfl) ?_
  have e4 : (nI 4).toInt = 4 := by decide
  have e7 : (nI 7).toInt = 7 := by decide
  unfold rateF at hq
  refine x_ald0 (n := 1) dX9_rateIn_0 rfl ?_
  refine x_getI (n := 4) flX9_15 rfl dX9_rateIn_1 rfl hW.1 ?_
  rcases zsw1_6 (I b 0) with hsw | hsw | hsw | hsw | hsw | hsw | hsw
  · refine x_tswO (n := 93) dX9_rateIn_4 hsw (by decide) ?_
    refine x_ic2 (n := 94) dX9_rateIn_93 rfl ?_
    refine r_iret dX9_rateIn_94 rfl ?_
    rw [if_neg, if_neg, if_neg, if_neg, if_neg, if_neg] at hq
    · exact hq
    all_goals (intro h9; rw [h9] at hsw; revert hsw; decide)
  · refine x_top hsw ?_
    refine x_tswI (n := 44) (off := 40) dX9_rateIn_4 (by decide) (by decide) (by decide +kernel) (by decide) ?_
    refine x_ild1 (n := 45) dX9_rateIn_44 rfl ?_
    refine x_ild2 (n := 46) dX9_rateIn_45 rfl ?_
    refine x_cS2 (n := 49) (d' := 1) zcX9_cutRate mlX9_48 dX9_rateIn_46 rfl (Nat.le_of_ble_eq_true rfl) (Nat.le_of_ble_eq_true rfl) ?_
    refine c_X9_cutRate hk ?_
    refine x_some ?_
    refine r_iret dX9_rateIn_49 rfl ?_
    rw [if_pos hsw] at hq; exact hq
  · refine x_top hsw ?_
    refine x_tswI (n := 50) (off := 46) dX9_rateIn_4 (by decide) (by decide) (by decide +kernel) (by decide) ?_
    refine x_ild2 (n := 51) dX9_rateIn_50 rfl ?_
    refine x_ic4 (n := 52) dX9_rateIn_51 rfl ?_
    refine x_icmp_le (n := 55) (tgt := 59) dX9_rateIn_52 rfl (by decide) (fun c_52 => ?_) (fun c_52 => ?_)
    · refine x_ic2 (n := 60) dX9_rateIn_59 rfl ?_
      refine r_iret dX9_rateIn_60 rfl ?_
      rw [zle] at c_52
      rw [if_neg (by rw [hsw]; decide), if_pos hsw] at hq
      first | (rw [if_pos (by omega)] at hq; exact hq) | (rw [if_neg (by omega)] at hq; exact hq)
    · refine x_ic1 (n := 56) dX9_rateIn_55 rfl ?_
      refine x_goto (n := 60) dX9_rateIn_56 (by decide) ?_
      refine r_iret dX9_rateIn_60 rfl ?_
      rw [zle] at c_52
      rw [if_neg (by rw [hsw]; decide), if_pos hsw] at hq
      first | (rw [if_pos (by omega)] at hq; exact hq) | (rw [if_neg (by omega)] at hq; exact hq)
  · refine x_top hsw ?_
    refine x_tswI (n := 61) (off := 57) dX9_rateIn_4 (by decide) (by decide) (by decide +kernel) (by decide) ?_
    refine x_ild1 (n := 62) dX9_rateIn_61 rfl ?_
    refine x_ild2 (n := 63) dX9_rateIn_62 rfl ?_
    refine x_cS2 (n := 66) (d' := 1) zcX9_cutRate mlX9_48 dX9_rateIn_63 rfl (Nat.le_of_ble_eq_true rfl) (Nat.le_of_ble_eq_true rfl) ?_
    refine c_X9_cutRate hk ?_
    refine x_some ?_
    refine x_ic1 (n := 67) dX9_rateIn_66 rfl ?_
    refine x_iadd (n := 68) dX9_rateIn_67 rfl ?_
    refine x_ic2 (n := 69) dX9_rateIn_68 rfl ?_
    refine x_idiv (n := 70) dX9_rateIn_69 rfl (by decide) ?_
    refine r_iret dX9_rateIn_70 rfl ?_
    rw [if_neg (by rw [hsw]; decide), if_neg (by rw [hsw]; decide), if_pos hsw] at hq; exact hq
  · refine x_top hsw ?_
    refine x_tswI (n := 71) (off := 67) dX9_rateIn_4 (by decide) (by decide) (by decide +kernel) (by decide) ?_
    refine x_ild2 (n := 72) dX9_rateIn_71 rfl ?_
    refine x_bipush (n := 74) (v := nI 7) dX9_rateIn_72 rfl (by decide) ?_
    refine x_icmp_le (n := 77) (tgt := 81) dX9_rateIn_74 rfl (by decide) (fun c_74 => ?_) (fun c_74 => ?_)
    · refine x_ic1 (n := 82) dX9_rateIn_81 rfl ?_
      refine r_iret dX9_rateIn_82 rfl ?_
      rw [zle] at c_74
      rw [if_neg (by rw [hsw]; decide), if_neg (by rw [hsw]; decide), if_neg (by rw [hsw]; decide), if_pos hsw] at hq
      first | (rw [if_pos (by omega)] at hq; exact hq) | (rw [if_neg (by omega)] at hq; exact hq)
    · refine x_ic0 (n := 78) dX9_rateIn_77 rfl ?_
      refine x_goto (n := 82) dX9_rateIn_78 (by decide) ?_
      refine r_iret dX9_rateIn_82 rfl ?_
      rw [zle] at c_74
      rw [if_neg (by rw [hsw]; decide), if_neg (by rw [hsw]; decide), if_neg (by rw [hsw]; decide), if_pos hsw] at hq
      first | (rw [if_pos (by omega)] at hq; exact hq) | (rw [if_neg (by omega)] at hq; exact hq)
  · refine x_top hsw ?_
    refine x_tswI (n := 83) (off := 79) dX9_rateIn_4 (by decide) (by decide) (by decide +kernel) (by decide) ?_
    refine x_ild1 (n := 84) dX9_rateIn_83 rfl ?_
    refine x_ild2 (n := 85) dX9_rateIn_84 rfl ?_
    refine x_cS2 (n := 88) (d' := 1) zcX9_cutRate mlX9_48 dX9_rateIn_85 rfl (Nat.le_of_ble_eq_true rfl) (Nat.le_of_ble_eq_true rfl) ?_
    refine c_X9_cutRate hk ?_
    refine x_some ?_
    refine x_ic1 (n := 89) dX9_rateIn_88 rfl ?_
    refine x_iadd (n := 90) dX9_rateIn_89 rfl ?_
    refine r_iret dX9_rateIn_90 rfl ?_
    rw [if_neg (by rw [hsw]; decide), if_neg (by rw [hsw]; decide), if_neg (by rw [hsw]; decide), if_neg (by rw [hsw]; decide), if_pos hsw] at hq; exact hq
  · refine x_top hsw ?_
    refine x_tswI (n := 91) (off := 87) dX9_rateIn_4 (by decide) (by decide) (by decide +kernel) (by decide) ?_
    refine x_ic4 (n := 92) dX9_rateIn_91 rfl ?_
    refine r_iret dX9_rateIn_92 rfl ?_
    rw [if_neg (by rw [hsw]; decide), if_neg (by rw [hsw]; decide), if_neg (by rw [hsw]; decide), if_neg (by rw [hsw]; decide), if_neg (by rw [hsw]; decide), if_pos hsw] at hq; exact hq
theorem c_X9_worthIn (hW : ShW Z b) {s : Int32} (hq : Q (some (.int (worthF (I b 0) s))) Z I) : zM l G mX9_worthIn 0 0 0 [.ref b, .int s] Z I Q := by
  refine x_entry [some (.ref b), some (.int s), none] 1 rfl rfl (Nat.le_of_ble_eq_true rfl) ?_
  have ok : ∀ x : Int32, x = (if s = nI 0 then nI 10 else nI 5) → zX l G mX9_worthIn 0 0 0 11 [some (.ref b), some (.int s), some (.int x)] [] Z I Q := by
    intro x hx
    unfold worthF at hq
    rw [← hx] at hq
    refine x_ald0 (n := 12) dX9_worthIn_11 rfl ?_
    refine x_getI (n := 15) flX9_15 rfl dX9_worthIn_12 rfl hW.1 ?_
    rcases zsw1_6 (I b 0) with hsw | hsw | hsw | hsw | hsw | hsw | hsw
    · refine x_tswO (n := 67) dX9_worthIn_15 hsw (by decide) ?_
      refine x_ic5 (n := 68) dX9_worthIn_67 rfl ?_
      refine r_iret dX9_worthIn_68 rfl ?_
      rw [if_neg, if_neg, if_neg, if_neg, if_neg] at hq
      · exact hq
      all_goals (intro h9; rw [h9] at hsw; revert hsw; decide)
    · refine x_top hsw ?_
      refine x_tswI (n := 52) (off := 37) dX9_worthIn_15 (by decide) (by decide) (by decide +kernel) (by decide) ?_
      refine x_ild2 (n := 53) dX9_worthIn_52 rfl ?_
      refine r_iret dX9_worthIn_53 rfl ?_
      rw [if_pos hsw] at hq; exact hq
    · refine x_top hsw ?_
      refine x_tswI (n := 67) (off := 52) dX9_worthIn_15 (by decide) (by decide) (by decide +kernel) (by decide) ?_
      refine x_ic5 (n := 68) dX9_worthIn_67 rfl ?_
      refine r_iret dX9_worthIn_68 rfl ?_
      rw [if_neg, if_neg, if_neg, if_neg, if_neg] at hq
      · exact hq
      all_goals (intro h9; rw [h9] at hsw; revert hsw; decide)
    · refine x_top hsw ?_
      refine x_tswI (n := 54) (off := 39) dX9_worthIn_15 (by decide) (by decide) (by decide +kernel) (by decide) ?_
      refine x_ic4 (n := 55) dX9_worthIn_54 rfl ?_
      refine x_ild2 (n := 56) dX9_worthIn_55 rfl ?_
      refine x_imul (n := 57) dX9_worthIn_56 rfl ?_
      refine r_iret dX9_worthIn_57 rfl ?_
      rw [if_neg (by rw [hsw]; decide), if_pos hsw] at hq; exact hq
    · refine x_top hsw ?_
      refine x_tswI (n := 58) (off := 43) dX9_worthIn_15 (by decide) (by decide) (by decide +kernel) (by decide) ?_
      refine x_bipush (n := 60) (v := nI 9) dX9_worthIn_58 rfl (by decide) ?_
      refine r_iret dX9_worthIn_60 rfl ?_
      rw [if_neg (by rw [hsw]; decide), if_neg (by rw [hsw]; decide), if_pos hsw] at hq; exact hq
    · refine x_top hsw ?_
      refine x_tswI (n := 61) (off := 46) dX9_worthIn_15 (by decide) (by decide) (by decide +kernel) (by decide) ?_
      refine x_ild2 (n := 62) dX9_worthIn_61 rfl ?_
      refine x_ic2 (n := 63) dX9_worthIn_62 rfl ?_
      refine x_idiv (n := 64) dX9_worthIn_63 rfl (by decide) ?_
      refine r_iret dX9_worthIn_64 rfl ?_
      rw [if_neg (by rw [hsw]; decide), if_neg (by rw [hsw]; decide), if_neg (by rw [hsw]; decide), if_pos hsw] at hq; exact hq
    · refine x_top hsw ?_
      refine x_tswI (n := 65) (off := 50) dX9_worthIn_15 (by decide) (by decide) (by decide +kernel) (by decide) ?_
      refine x_ic2 (n := 66) dX9_worthIn_65 rfl ?_
      refine r_iret dX9_worthIn_66 rfl ?_
      rw [if_neg (by rw [hsw]; decide), if_neg (by rw [hsw]; decide), if_neg (by rw [hsw]; decide), if_neg (by rw [hsw]; decide), if_pos hsw] at hq; exact hq
  refine x_ild1 (n := 1) dX9_worthIn_0 rfl ?_
  refine x_if_ne (n := 4) (tgt := 9) dX9_worthIn_1 rfl (by decide) (fun c_1 => ?_) (fun c_1 => ?_)
  · refine x_ic5 (n := 10) dX9_worthIn_9 rfl ?_
    refine x_ist2 (n := 11) dX9_worthIn_10 rfl (by decide) rfl ?_
    first | exact ok _ (by rw [if_pos (by assumption)]) | exact ok _ (by rw [if_neg (by assumption)])
  · refine x_bipush (n := 6) (v := nI 10) dX9_worthIn_4 rfl (by decide) ?_
    refine x_goto (n := 10) dX9_worthIn_6 (by decide) ?_
    refine x_ist2 (n := 11) dX9_worthIn_10 rfl (by decide) rfl ?_
    first | exact ok _ (by rw [if_pos (by assumption)]) | exact ok _ (by rw [if_neg (by assumption)])
theorem c_X9_joined (hW : ShW Z b) (hq : Q (some (.int (minI (I b 3) (minI (I (b + 1) 0) (I (b + 1) 1))))) Z I) : zM l G mX9_joined 1 0 0 [.ref b] Z I Q := by
  refine x_entry [some (.ref b)] 0 rfl rfl (Nat.le_of_ble_eq_true rfl) ?_
  refine x_ald0 (n := 1) dX9_joined_0 rfl ?_
  refine x_getI (n := 4) flX9_25 rfl dX9_joined_1 rfl hW.1 ?_
  refine x_ald0 (n := 5) dX9_joined_4 rfl ?_
  refine x_getR (n := 8) flX9_9 rfl dX9_joined_5 rfl hW.1 hW.2.1 ?_
  refine x_ic0 (n := 9) dX9_joined_8 rfl ?_
  refine x_ialdN (n := 10) dX9_joined_9 rfl hW.2.2 (Nat.le_of_ble_eq_true rfl) (by omega) ?_
  refine x_ald0 (n := 11) dX9_joined_10 rfl ?_
  refine x_getR (n := 14) flX9_9 rfl dX9_joined_11 rfl hW.1 hW.2.1 ?_
  refine x_ic1 (n := 15) dX9_joined_14 rfl ?_
  refine x_ialdN (n := 16) dX9_joined_15 rfl hW.2.2 (Nat.le_of_ble_eq_true rfl) (by omega) ?_
  refine x_mmin (n := 19) dX9_joined_16 rfl mlX9_55 zu_min zi_J9 zv_min (by decide) (Nat.le_of_ble_eq_true rfl) ?_
  refine x_mmin (n := 22) dX9_joined_19 rfl mlX9_55 zu_min zi_J9 zv_min (by decide) (Nat.le_of_ble_eq_true rfl) ?_
  refine r_iret dX9_joined_22 rfl ?_
  rw [mmin_eq, mmin_eq]; exact hq
theorem c_X9_isThrough (hW : ShW Z b) (hq : Q (some (.int (zb (decide (I b 3 = I b 2))))) Z I) : zM l G mX9_isThrough 0 0 0 [.ref b] Z I Q := by
  refine x_entry [some (.ref b)] 0 rfl rfl (Nat.le_of_ble_eq_true rfl) ?_
  refine x_ald0 (n := 1) dX9_isThrough_0 rfl ?_
  refine x_getI (n := 4) flX9_25 rfl dX9_isThrough_1 rfl hW.1 ?_
  refine x_ald0 (n := 5) dX9_isThrough_4 rfl ?_
  refine x_getI (n := 8) flX9_22 rfl dX9_isThrough_5 rfl hW.1 ?_
  refine x_icmp_ne (n := 11) (tgt := 15) dX9_isThrough_8 rfl (by decide) (fun c_8 => ?_) (fun c_8 => ?_)
  · refine x_ic0 (n := 16) dX9_isThrough_15 rfl ?_
    refine r_zret dX9_isThrough_16 rfl (by first | exact nar0 | exact nar1 | exact zb_nar _) ?_
    first | (rw [decide_eq_true (by assumption)] at hq; exact hq) | (rw [decide_eq_false (by assumption)] at hq; exact hq)
  · refine x_ic1 (n := 12) dX9_isThrough_11 rfl ?_
    refine x_goto (n := 16) dX9_isThrough_12 (by decide) ?_
    refine r_zret dX9_isThrough_16 rfl (by first | exact nar0 | exact nar1 | exact zb_nar _) ?_
    first | (rw [decide_eq_true (by assumption)] at hq; exact hq) | (rw [decide_eq_false (by assumption)] at hq; exact hq)
def tdN (I : zI) (b : Nat) : Nat → Int32
  | 0 => I b 0
  | 1 => I b 1
  | 2 => I b 2
  | 3 => I b 3
  | 5 => I b 4
  | 6 => I b 5
  | 9 => I (b + 1) 0
  | 10 => I (b + 1) 1
  | 11 => minI (I b 3) (minI (I (b + 1) 0) (I (b + 1) 1))
  | 12 => I b 6
  | _ => -1000000001
theorem c_X9_toldOf (hW : ShW Z b) {j : Nat} (hj : j < 13) (hq : Q (some (.int (tdN I b j))) Z I) : zM l G mX9_toldOf 2 0 0 [.ref b, .int (nI j)] Z I Q := by
  refine x_entry [some (.ref b), some (.int (nI j))] 0 rfl rfl (Nat.le_of_ble_eq_true rfl) ?_
  have hz : ∀ i, i < 13 → nI j = nI i → j = i := fun i hi h => (nI_eq (by omega) (by omega)).mp h
  refine x_ild1 (n := 1) dX9_toldOf_0 rfl ?_
  rcases zsw0_12 (nI j) with hsw | hsw | hsw | hsw | hsw | hsw | hsw | hsw | hsw | hsw | hsw | hsw | hsw | hsw
  · refine x_tswO (n := 122) dX9_toldOf_1 hsw (by decide) ?_
    refine x_ldc (n := 124) dX9_toldOf_122 rfl kiX9_64 ?_
    refine r_iret dX9_toldOf_124 rfl ?_
    first | (rw [hz _ (by omega) hsw] at hq; exact hq) | (exfalso; rw [nI_toInt (by omega)] at hsw; omega)
  · refine x_top hsw ?_
    refine x_tswI (n := 68) (off := 67) dX9_toldOf_1 (by decide) (by decide) (by decide +kernel) (by decide) ?_
    refine x_ald0 (n := 69) dX9_toldOf_68 rfl ?_
    refine x_getI (n := 72) flX9_15 rfl dX9_toldOf_69 rfl hW.1 ?_
    refine r_iret dX9_toldOf_72 rfl ?_
    rw [hz _ (by omega) hsw] at hq; exact hq
  · refine x_top hsw ?_
    refine x_tswI (n := 73) (off := 72) dX9_toldOf_1 (by decide) (by decide) (by decide +kernel) (by decide) ?_
    refine x_ald0 (n := 74) dX9_toldOf_73 rfl ?_
    refine x_getI (n := 77) flX9_19 rfl dX9_toldOf_74 rfl hW.1 ?_
    refine r_iret dX9_toldOf_77 rfl ?_
    rw [hz _ (by omega) hsw] at hq; exact hq
  · refine x_top hsw ?_
    refine x_tswI (n := 78) (off := 77) dX9_toldOf_1 (by decide) (by decide) (by decide +kernel) (by decide) ?_
    refine x_ald0 (n := 79) dX9_toldOf_78 rfl ?_
    refine x_getI (n := 82) flX9_22 rfl dX9_toldOf_79 rfl hW.1 ?_
    refine r_iret dX9_toldOf_82 rfl ?_
    rw [hz _ (by omega) hsw] at hq; exact hq
  · refine x_top hsw ?_
    refine x_tswI (n := 83) (off := 82) dX9_toldOf_1 (by decide) (by decide) (by decide +kernel) (by decide) ?_
    refine x_ald0 (n := 84) dX9_toldOf_83 rfl ?_
    refine x_getI (n := 87) flX9_25 rfl dX9_toldOf_84 rfl hW.1 ?_
    refine r_iret dX9_toldOf_87 rfl ?_
    rw [hz _ (by omega) hsw] at hq; exact hq
  · refine x_top hsw ?_
    refine x_tswI (n := 122) (off := 121) dX9_toldOf_1 (by decide) (by decide) (by decide +kernel) (by decide) ?_
    refine x_ldc (n := 124) dX9_toldOf_122 rfl kiX9_64 ?_
    refine r_iret dX9_toldOf_124 rfl ?_
    first | (rw [hz _ (by omega) hsw] at hq; exact hq) | (exfalso; rw [nI_toInt (by omega)] at hsw; omega)
  · refine x_top hsw ?_
    refine x_tswI (n := 88) (off := 87) dX9_toldOf_1 (by decide) (by decide) (by decide +kernel) (by decide) ?_
    refine x_ald0 (n := 89) dX9_toldOf_88 rfl ?_
    refine x_getI (n := 92) flX9_28 rfl dX9_toldOf_89 rfl hW.1 ?_
    refine r_iret dX9_toldOf_92 rfl ?_
    rw [hz _ (by omega) hsw] at hq; exact hq
  · refine x_top hsw ?_
    refine x_tswI (n := 93) (off := 92) dX9_toldOf_1 (by decide) (by decide) (by decide +kernel) (by decide) ?_
    refine x_ald0 (n := 94) dX9_toldOf_93 rfl ?_
    refine x_getI (n := 97) flX9_31 rfl dX9_toldOf_94 rfl hW.1 ?_
    refine r_iret dX9_toldOf_97 rfl ?_
    rw [hz _ (by omega) hsw] at hq; exact hq
  · refine x_top hsw ?_
    refine x_tswI (n := 122) (off := 121) dX9_toldOf_1 (by decide) (by decide) (by decide +kernel) (by decide) ?_
    refine x_ldc (n := 124) dX9_toldOf_122 rfl kiX9_64 ?_
    refine r_iret dX9_toldOf_124 rfl ?_
    first | (rw [hz _ (by omega) hsw] at hq; exact hq) | (exfalso; rw [nI_toInt (by omega)] at hsw; omega)
  · refine x_top hsw ?_
    refine x_tswI (n := 122) (off := 121) dX9_toldOf_1 (by decide) (by decide) (by decide +kernel) (by decide) ?_
    refine x_ldc (n := 124) dX9_toldOf_122 rfl kiX9_64 ?_
    refine r_iret dX9_toldOf_124 rfl ?_
    first | (rw [hz _ (by omega) hsw] at hq; exact hq) | (exfalso; rw [nI_toInt (by omega)] at hsw; omega)
  · refine x_top hsw ?_
    refine x_tswI (n := 98) (off := 97) dX9_toldOf_1 (by decide) (by decide) (by decide +kernel) (by decide) ?_
    refine x_ald0 (n := 99) dX9_toldOf_98 rfl ?_
    refine x_getR (n := 102) flX9_9 rfl dX9_toldOf_99 rfl hW.1 hW.2.1 ?_
    refine x_ic0 (n := 103) dX9_toldOf_102 rfl ?_
    refine x_ialdN (n := 104) dX9_toldOf_103 rfl hW.2.2 (Nat.le_of_ble_eq_true rfl) (by omega) ?_
    refine r_iret dX9_toldOf_104 rfl ?_
    rw [hz _ (by omega) hsw] at hq; exact hq
  · refine x_top hsw ?_
    refine x_tswI (n := 105) (off := 104) dX9_toldOf_1 (by decide) (by decide) (by decide +kernel) (by decide) ?_
    refine x_ald0 (n := 106) dX9_toldOf_105 rfl ?_
    refine x_getR (n := 109) flX9_9 rfl dX9_toldOf_106 rfl hW.1 hW.2.1 ?_
    refine x_ic1 (n := 110) dX9_toldOf_109 rfl ?_
    refine x_ialdN (n := 111) dX9_toldOf_110 rfl hW.2.2 (Nat.le_of_ble_eq_true rfl) (by omega) ?_
    refine r_iret dX9_toldOf_111 rfl ?_
    rw [hz _ (by omega) hsw] at hq; exact hq
  · refine x_top hsw ?_
    refine x_tswI (n := 112) (off := 111) dX9_toldOf_1 (by decide) (by decide) (by decide +kernel) (by decide) ?_
    refine x_ald0 (n := 113) dX9_toldOf_112 rfl ?_
    refine x_cV0 (n := 116) (d' := 1) zcX9_joined mlX9_60 dX9_toldOf_113 rfl hW.1 (Nat.le_of_ble_eq_true rfl) (Nat.le_of_ble_eq_true rfl) ?_
    refine c_X9_joined hW ?_
    refine x_some ?_
    refine r_iret dX9_toldOf_116 rfl ?_
    rw [hz _ (by omega) hsw] at hq; exact hq
  · refine x_top hsw ?_
    refine x_tswI (n := 117) (off := 116) dX9_toldOf_1 (by decide) (by decide) (by decide +kernel) (by decide) ?_
    refine x_ald0 (n := 118) dX9_toldOf_117 rfl ?_
    refine x_getI (n := 121) flX9_34 rfl dX9_toldOf_118 rfl hW.1 ?_
    refine r_iret dX9_toldOf_121 rfl ?_
    rw [hz _ (by omega) hsw] at hq; exact hq
theorem l_X9_un (hq : Q (some (.int (nI 0))) Z I) {x a : Int32} {i : Nat} (hi : i < 7) : zX l G mX9_isUnder 1 0 0 4 [some (.int a), some (.int x), some (.int (-1)), some (.int (nI i))] [] Z I Q := by
  refine x_ild3 (n := 5) dX9_isUnder_4 rfl ?_
  refine x_gets (n := 8) (q := zst_KIND_ABOVE) dX9_isUnder_5 rfl (by decide) fsX9_41 ?_
  refine x_tlen (n := 9) (q := zst_KIND_ABOVE) (v := nI 7) dX9_isUnder_8 rfl (by decide) rfl rfl ?_
  refine x_icmpN_ge (n := 12) (tgt := 41) dX9_isUnder_9 rfl (by decide) (by omega) (by omega) (fun c_9 => ?_) (fun c_9 => ?_)
  · exact absurd c_9 (by omega)
  · refine x_ild2 (n := 13) dX9_isUnder_12 rfl ?_
    refine x_ic0 (n := 14) dX9_isUnder_13 rfl ?_
    refine x_bipush (n := 16) (v := nI 6) dX9_isUnder_14 rfl (by decide) ?_
    refine x_cN3 (n := 19) (d' := 0) zcX11_inside mnX9_44 dX9_isUnder_16 rfl (Nat.le_of_ble_eq_true rfl) (Nat.le_of_ble_eq_true rfl) ?_
    refine c_X11_inside false (by decide) ?_
    refine x_some ?_
    refine x_if_eq (n := 22) (tgt := 41) dX9_isUnder_19 rfl (by decide) (fun c_19 => ?_) (fun c_19 => ?_)
    · refine x_ic0 (n := 42) dX9_isUnder_41 rfl ?_
      refine r_zret dX9_isUnder_42 rfl (by first | exact nar0 | exact nar1 | exact zb_nar _) ?_
      exact hq
    · exact absurd (by decide) c_19
theorem l_X9_u0 {x a : Int32} {i : Nat} (hi : i < 6) (hq : Q (some (.int (zb (decide (x = nI 0))))) Z I) : zX l G mX9_isUnder 1 0 0 4 [some (.int a), some (.int x), some (.int (nI 0)), some (.int (nI i))] [] Z I Q := by
  refine x_ild3 (n := 5) dX9_isUnder_4 rfl ?_
  refine x_gets (n := 8) (q := zst_KIND_ABOVE) dX9_isUnder_5 rfl (by decide) fsX9_41 ?_
  refine x_tlen (n := 9) (q := zst_KIND_ABOVE) (v := nI 7) dX9_isUnder_8 rfl (by decide) rfl rfl ?_
  refine x_icmpN_ge (n := 12) (tgt := 41) dX9_isUnder_9 rfl (by decide) (by omega) (by omega) (fun c_9 => ?_) (fun c_9 => ?_)
  · exact absurd c_9 (by omega)
  · refine x_ild2 (n := 13) dX9_isUnder_12 rfl ?_
    refine x_ic0 (n := 14) dX9_isUnder_13 rfl ?_
    refine x_bipush (n := 16) (v := nI 6) dX9_isUnder_14 rfl (by decide) ?_
    refine x_cN3 (n := 19) (d' := 0) zcX11_inside mnX9_44 dX9_isUnder_16 rfl (Nat.le_of_ble_eq_true rfl) (Nat.le_of_ble_eq_true rfl) ?_
    refine c_X11_inside true (by decide) ?_
    refine x_some ?_
    refine x_if_eq (n := 22) (tgt := 41) dX9_isUnder_19 rfl (by decide) (fun c_19 => ?_) (fun c_19 => ?_)
    · exact absurd c_19 (by decide)
    · refine x_ild2 (n := 23) dX9_isUnder_22 rfl ?_
      refine x_ild1 (n := 24) dX9_isUnder_23 rfl ?_
      refine x_icmp_ne (n := 27) (tgt := 29) dX9_isUnder_24 rfl (by decide) (fun c_24 => ?_) (fun c_24 => ?_)
      · refine x_gets (n := 32) (q := zst_KIND_ABOVE) dX9_isUnder_29 rfl (by decide) fsX9_41 ?_
        refine x_ild2 (n := 33) dX9_isUnder_32 rfl ?_
        refine x_tald (n := 34) (q := zst_KIND_ABOVE) dX9_isUnder_33 rfl (by decide) rfl (vp_in_nI (N := 7) (by first | decide | omega) (by decide)) ?_
        refine x_ist2 (n := 35) dX9_isUnder_34 rfl (by decide) rfl ?_
        refine x_iincN3 (n := 38) (k := 1) dX9_isUnder_35 rfl (by decide) rfl ?_
        refine x_goto (n := 4) dX9_isUnder_38 (by decide) ?_
        rw [decide_eq_false (fun e => c_24 e.symm)] at hq
        exact l_X9_un hq (by omega)
      · refine x_ic1 (n := 28) dX9_isUnder_27 rfl ?_
        refine r_zret dX9_isUnder_28 rfl (by first | exact nar0 | exact nar1 | exact zb_nar _) ?_
        rw [decide_eq_true c_24.symm] at hq; exact hq
theorem l_X9_u1 {x a : Int32} {i : Nat} (hi : i < 5) (hq : Q (some (.int (zb (decide (x = nI 1 ∨ x = nI 0))))) Z I) : zX l G mX9_isUnder 1 0 0 4 [some (.int a), some (.int x), some (.int (nI 1)), some (.int (nI i))] [] Z I Q := by
  refine x_ild3 (n := 5) dX9_isUnder_4 rfl ?_
  refine x_gets (n := 8) (q := zst_KIND_ABOVE) dX9_isUnder_5 rfl (by decide) fsX9_41 ?_
  refine x_tlen (n := 9) (q := zst_KIND_ABOVE) (v := nI 7) dX9_isUnder_8 rfl (by decide) rfl rfl ?_
  refine x_icmpN_ge (n := 12) (tgt := 41) dX9_isUnder_9 rfl (by decide) (by omega) (by omega) (fun c_9 => ?_) (fun c_9 => ?_)
  · exact absurd c_9 (by omega)
  · refine x_ild2 (n := 13) dX9_isUnder_12 rfl ?_
    refine x_ic0 (n := 14) dX9_isUnder_13 rfl ?_
    refine x_bipush (n := 16) (v := nI 6) dX9_isUnder_14 rfl (by decide) ?_
    refine x_cN3 (n := 19) (d' := 0) zcX11_inside mnX9_44 dX9_isUnder_16 rfl (Nat.le_of_ble_eq_true rfl) (Nat.le_of_ble_eq_true rfl) ?_
    refine c_X11_inside true (by decide) ?_
    refine x_some ?_
    refine x_if_eq (n := 22) (tgt := 41) dX9_isUnder_19 rfl (by decide) (fun c_19 => ?_) (fun c_19 => ?_)
    · exact absurd c_19 (by decide)
    · refine x_ild2 (n := 23) dX9_isUnder_22 rfl ?_
      refine x_ild1 (n := 24) dX9_isUnder_23 rfl ?_
      refine x_icmp_ne (n := 27) (tgt := 29) dX9_isUnder_24 rfl (by decide) (fun c_24 => ?_) (fun c_24 => ?_)
      · refine x_gets (n := 32) (q := zst_KIND_ABOVE) dX9_isUnder_29 rfl (by decide) fsX9_41 ?_
        refine x_ild2 (n := 33) dX9_isUnder_32 rfl ?_
        refine x_tald (n := 34) (q := zst_KIND_ABOVE) dX9_isUnder_33 rfl (by decide) rfl (vp_in_nI (N := 7) (by first | decide | omega) (by decide)) ?_
        refine x_ist2 (n := 35) dX9_isUnder_34 rfl (by decide) rfl ?_
        refine x_iincN3 (n := 38) (k := 1) dX9_isUnder_35 rfl (by decide) rfl ?_
        refine x_goto (n := 4) dX9_isUnder_38 (by decide) ?_
        have e0 : decide (x = nI 1 ∨ x = nI 0) = decide (x = nI 0) := by congr 1; exact propext ⟨fun h => h.resolve_left (fun e => c_24 e.symm), Or.inr⟩
        rw [e0] at hq
        exact l_X9_u0 (by omega) hq
      · refine x_ic1 (n := 28) dX9_isUnder_27 rfl ?_
        refine r_zret dX9_isUnder_28 rfl (by first | exact nar0 | exact nar1 | exact zb_nar _) ?_
        rw [decide_eq_true (Or.inl c_24.symm)] at hq; exact hq
theorem c_X9_isUnder {k : Nat} {x : Int32} (hk : k < 7) (hq : Q (some (.int (zb (underF (nI k) x)))) Z I) : zM l G mX9_isUnder 1 0 0 [.int (nI k), .int x] Z I Q := by
  refine x_entry [some (.int (nI k)), some (.int x), none, none] 2 rfl rfl (Nat.le_of_ble_eq_true rfl) ?_
  refine x_ild0 (n := 1) dX9_isUnder_0 rfl ?_
  refine x_ist2 (n := 2) dX9_isUnder_1 rfl (by decide) rfl ?_
  refine x_ic0 (n := 3) dX9_isUnder_2 rfl ?_
  refine x_ist3 (n := 4) dX9_isUnder_3 rfl (by decide) rfl ?_
  have hu : ∀ j : Nat, j < 7 → x ≠ nI j → nI j ≠ x := fun j _ h e => h e.symm
  rcases (by omega : k = 0 ∨ k = 1 ∨ k = 2 ∨ k = 3 ∨ k = 4 ∨ k = 5 ∨ k = 6) with rfl | rfl | rfl | rfl | rfl | rfl | rfl
  · refine l_X9_u0 (by omega) ?_
    have e : underF (nI 0) x = decide (x = nI 0) := by unfold underF; congr 1; simp [show ¬ (nI 0 = nI 3) by decide, show ¬ (nI 0 = nI 5) by decide]
    rw [← e]; exact hq
  · refine l_X9_u1 (by omega) ?_
    have e : underF (nI 1) x = decide (x = nI 1 ∨ x = nI 0) := by unfold underF; congr 1; simp [show ¬ (nI 1 = nI 3) by decide, show ¬ (nI 1 = nI 5) by decide]; exact or_comm
    rw [← e]; exact hq
  · have e : underF (nI 2) x = decide (x = nI 2 ∨ x = nI 0) := by unfold underF; congr 1; simp [show ¬ (nI 2 = nI 3) by decide, show ¬ (nI 2 = nI 5) by decide]; exact or_comm
    rw [e] at hq
    refine x_ild3 (n := 5) dX9_isUnder_4 rfl ?_
    refine x_gets (n := 8) (q := zst_KIND_ABOVE) dX9_isUnder_5 rfl (by decide) fsX9_41 ?_
    refine x_tlen (n := 9) (q := zst_KIND_ABOVE) (v := nI 7) dX9_isUnder_8 rfl (by decide) rfl rfl ?_
    refine x_icmpN_ge (n := 12) (tgt := 41) dX9_isUnder_9 rfl (by decide) (by omega) (by omega) (fun c_9 => ?_) (fun c_9 => ?_)
    · exact absurd c_9 (by omega)
    · refine x_ild2 (n := 13) dX9_isUnder_12 rfl ?_
      refine x_ic0 (n := 14) dX9_isUnder_13 rfl ?_
      refine x_bipush (n := 16) (v := nI 6) dX9_isUnder_14 rfl (by decide) ?_
      refine x_cN3 (n := 19) (d' := 0) zcX11_inside mnX9_44 dX9_isUnder_16 rfl (Nat.le_of_ble_eq_true rfl) (Nat.le_of_ble_eq_true rfl) ?_
      refine c_X11_inside true (by decide) ?_
      refine x_some ?_
      refine x_if_eq (n := 22) (tgt := 41) dX9_isUnder_19 rfl (by decide) (fun c_19 => ?_) (fun c_19 => ?_)
      · exact absurd c_19 (by decide)
      · refine x_ild2 (n := 23) dX9_isUnder_22 rfl ?_
        refine x_ild1 (n := 24) dX9_isUnder_23 rfl ?_
        refine x_icmp_ne (n := 27) (tgt := 29) dX9_isUnder_24 rfl (by decide) (fun c_24 => ?_) (fun c_24 => ?_)
        · refine x_gets (n := 32) (q := zst_KIND_ABOVE) dX9_isUnder_29 rfl (by decide) fsX9_41 ?_
          refine x_ild2 (n := 33) dX9_isUnder_32 rfl ?_
          refine x_tald (n := 34) (q := zst_KIND_ABOVE) dX9_isUnder_33 rfl (by decide) rfl (vp_in_nI (N := 7) (by first | decide | omega) (by decide)) ?_
          refine x_ist2 (n := 35) dX9_isUnder_34 rfl (by decide) rfl ?_
          refine x_iincN3 (n := 38) (k := 1) dX9_isUnder_35 rfl (by decide) rfl ?_
          refine x_goto (n := 4) dX9_isUnder_38 (by decide) ?_
          refine l_X9_u0 (by omega) ?_
          rw [show decide (x = nI 0) = decide (x = nI 2 ∨ x = nI 0) by congr 1; exact propext ⟨Or.inr, fun h => h.resolve_left (fun e => c_24 e.symm)⟩]; exact hq
        · refine x_ic1 (n := 28) dX9_isUnder_27 rfl ?_
          refine r_zret dX9_isUnder_28 rfl (by first | exact nar0 | exact nar1 | exact zb_nar _) ?_
          rw [decide_eq_true (Or.inl c_24.symm)] at hq; exact hq
  · have e : underF (nI 3) x = decide (x = nI 3 ∨ x = nI 1 ∨ x = nI 0) := by unfold underF; congr 1; exact propext ⟨by rintro (h | h | ⟨h, _⟩) <;> simp [h], by rintro (h | h | h) <;> simp [h]⟩
    rw [e] at hq
    refine x_ild3 (n := 5) dX9_isUnder_4 rfl ?_
    refine x_gets (n := 8) (q := zst_KIND_ABOVE) dX9_isUnder_5 rfl (by decide) fsX9_41 ?_
    refine x_tlen (n := 9) (q := zst_KIND_ABOVE) (v := nI 7) dX9_isUnder_8 rfl (by decide) rfl rfl ?_
    refine x_icmpN_ge (n := 12) (tgt := 41) dX9_isUnder_9 rfl (by decide) (by omega) (by omega) (fun c_9 => ?_) (fun c_9 => ?_)
    · exact absurd c_9 (by omega)
    · refine x_ild2 (n := 13) dX9_isUnder_12 rfl ?_
      refine x_ic0 (n := 14) dX9_isUnder_13 rfl ?_
      refine x_bipush (n := 16) (v := nI 6) dX9_isUnder_14 rfl (by decide) ?_
      refine x_cN3 (n := 19) (d' := 0) zcX11_inside mnX9_44 dX9_isUnder_16 rfl (Nat.le_of_ble_eq_true rfl) (Nat.le_of_ble_eq_true rfl) ?_
      refine c_X11_inside true (by decide) ?_
      refine x_some ?_
      refine x_if_eq (n := 22) (tgt := 41) dX9_isUnder_19 rfl (by decide) (fun c_19 => ?_) (fun c_19 => ?_)
      · exact absurd c_19 (by decide)
      · refine x_ild2 (n := 23) dX9_isUnder_22 rfl ?_
        refine x_ild1 (n := 24) dX9_isUnder_23 rfl ?_
        refine x_icmp_ne (n := 27) (tgt := 29) dX9_isUnder_24 rfl (by decide) (fun c_24 => ?_) (fun c_24 => ?_)
        · refine x_gets (n := 32) (q := zst_KIND_ABOVE) dX9_isUnder_29 rfl (by decide) fsX9_41 ?_
          refine x_ild2 (n := 33) dX9_isUnder_32 rfl ?_
          refine x_tald (n := 34) (q := zst_KIND_ABOVE) dX9_isUnder_33 rfl (by decide) rfl (vp_in_nI (N := 7) (by first | decide | omega) (by decide)) ?_
          refine x_ist2 (n := 35) dX9_isUnder_34 rfl (by decide) rfl ?_
          refine x_iincN3 (n := 38) (k := 1) dX9_isUnder_35 rfl (by decide) rfl ?_
          refine x_goto (n := 4) dX9_isUnder_38 (by decide) ?_
          refine l_X9_u1 (by omega) ?_
          rw [show decide (x = nI 1 ∨ x = nI 0) = decide (x = nI 3 ∨ x = nI 1 ∨ x = nI 0) by congr 1; exact propext ⟨Or.inr, fun h => h.resolve_left (fun e => c_24 e.symm)⟩]; exact hq
        · refine x_ic1 (n := 28) dX9_isUnder_27 rfl ?_
          refine r_zret dX9_isUnder_28 rfl (by first | exact nar0 | exact nar1 | exact zb_nar _) ?_
          rw [decide_eq_true (Or.inl c_24.symm)] at hq; exact hq
  · have e : underF (nI 4) x = decide (x = nI 4 ∨ x = nI 0) := by unfold underF; congr 1; simp [show ¬ (nI 4 = nI 3) by decide, show ¬ (nI 4 = nI 5) by decide]; exact or_comm
    rw [e] at hq
    refine x_ild3 (n := 5) dX9_isUnder_4 rfl ?_
    refine x_gets (n := 8) (q := zst_KIND_ABOVE) dX9_isUnder_5 rfl (by decide) fsX9_41 ?_
    refine x_tlen (n := 9) (q := zst_KIND_ABOVE) (v := nI 7) dX9_isUnder_8 rfl (by decide) rfl rfl ?_
    refine x_icmpN_ge (n := 12) (tgt := 41) dX9_isUnder_9 rfl (by decide) (by omega) (by omega) (fun c_9 => ?_) (fun c_9 => ?_)
    · exact absurd c_9 (by omega)
    · refine x_ild2 (n := 13) dX9_isUnder_12 rfl ?_
      refine x_ic0 (n := 14) dX9_isUnder_13 rfl ?_
      refine x_bipush (n := 16) (v := nI 6) dX9_isUnder_14 rfl (by decide) ?_
      refine x_cN3 (n := 19) (d' := 0) zcX11_inside mnX9_44 dX9_isUnder_16 rfl (Nat.le_of_ble_eq_true rfl) (Nat.le_of_ble_eq_true rfl) ?_
      refine c_X11_inside true (by decide) ?_
      refine x_some ?_
      refine x_if_eq (n := 22) (tgt := 41) dX9_isUnder_19 rfl (by decide) (fun c_19 => ?_) (fun c_19 => ?_)
      · exact absurd c_19 (by decide)
      · refine x_ild2 (n := 23) dX9_isUnder_22 rfl ?_
        refine x_ild1 (n := 24) dX9_isUnder_23 rfl ?_
        refine x_icmp_ne (n := 27) (tgt := 29) dX9_isUnder_24 rfl (by decide) (fun c_24 => ?_) (fun c_24 => ?_)
        · refine x_gets (n := 32) (q := zst_KIND_ABOVE) dX9_isUnder_29 rfl (by decide) fsX9_41 ?_
          refine x_ild2 (n := 33) dX9_isUnder_32 rfl ?_
          refine x_tald (n := 34) (q := zst_KIND_ABOVE) dX9_isUnder_33 rfl (by decide) rfl (vp_in_nI (N := 7) (by first | decide | omega) (by decide)) ?_
          refine x_ist2 (n := 35) dX9_isUnder_34 rfl (by decide) rfl ?_
          refine x_iincN3 (n := 38) (k := 1) dX9_isUnder_35 rfl (by decide) rfl ?_
          refine x_goto (n := 4) dX9_isUnder_38 (by decide) ?_
          refine l_X9_u0 (by omega) ?_
          rw [show decide (x = nI 0) = decide (x = nI 4 ∨ x = nI 0) by congr 1; exact propext ⟨Or.inr, fun h => h.resolve_left (fun e => c_24 e.symm)⟩]; exact hq
        · refine x_ic1 (n := 28) dX9_isUnder_27 rfl ?_
          refine r_zret dX9_isUnder_28 rfl (by first | exact nar0 | exact nar1 | exact zb_nar _) ?_
          rw [decide_eq_true (Or.inl c_24.symm)] at hq; exact hq
  · have e : underF (nI 5) x = decide (x = nI 5 ∨ x = nI 1 ∨ x = nI 0) := by unfold underF; congr 1; exact propext ⟨by rintro (h | h | ⟨h, _⟩) <;> simp [h], by rintro (h | h | h) <;> simp [h]⟩
    rw [e] at hq
    refine x_ild3 (n := 5) dX9_isUnder_4 rfl ?_
    refine x_gets (n := 8) (q := zst_KIND_ABOVE) dX9_isUnder_5 rfl (by decide) fsX9_41 ?_
    refine x_tlen (n := 9) (q := zst_KIND_ABOVE) (v := nI 7) dX9_isUnder_8 rfl (by decide) rfl rfl ?_
    refine x_icmpN_ge (n := 12) (tgt := 41) dX9_isUnder_9 rfl (by decide) (by omega) (by omega) (fun c_9 => ?_) (fun c_9 => ?_)
    · exact absurd c_9 (by omega)
    · refine x_ild2 (n := 13) dX9_isUnder_12 rfl ?_
      refine x_ic0 (n := 14) dX9_isUnder_13 rfl ?_
      refine x_bipush (n := 16) (v := nI 6) dX9_isUnder_14 rfl (by decide) ?_
      refine x_cN3 (n := 19) (d' := 0) zcX11_inside mnX9_44 dX9_isUnder_16 rfl (Nat.le_of_ble_eq_true rfl) (Nat.le_of_ble_eq_true rfl) ?_
      refine c_X11_inside true (by decide) ?_
      refine x_some ?_
      refine x_if_eq (n := 22) (tgt := 41) dX9_isUnder_19 rfl (by decide) (fun c_19 => ?_) (fun c_19 => ?_)
      · exact absurd c_19 (by decide)
      · refine x_ild2 (n := 23) dX9_isUnder_22 rfl ?_
        refine x_ild1 (n := 24) dX9_isUnder_23 rfl ?_
        refine x_icmp_ne (n := 27) (tgt := 29) dX9_isUnder_24 rfl (by decide) (fun c_24 => ?_) (fun c_24 => ?_)
        · refine x_gets (n := 32) (q := zst_KIND_ABOVE) dX9_isUnder_29 rfl (by decide) fsX9_41 ?_
          refine x_ild2 (n := 33) dX9_isUnder_32 rfl ?_
          refine x_tald (n := 34) (q := zst_KIND_ABOVE) dX9_isUnder_33 rfl (by decide) rfl (vp_in_nI (N := 7) (by first | decide | omega) (by decide)) ?_
          refine x_ist2 (n := 35) dX9_isUnder_34 rfl (by decide) rfl ?_
          refine x_iincN3 (n := 38) (k := 1) dX9_isUnder_35 rfl (by decide) rfl ?_
          refine x_goto (n := 4) dX9_isUnder_38 (by decide) ?_
          refine l_X9_u1 (by omega) ?_
          rw [show decide (x = nI 1 ∨ x = nI 0) = decide (x = nI 5 ∨ x = nI 1 ∨ x = nI 0) by congr 1; exact propext ⟨Or.inr, fun h => h.resolve_left (fun e => c_24 e.symm)⟩]; exact hq
        · refine x_ic1 (n := 28) dX9_isUnder_27 rfl ?_
          refine r_zret dX9_isUnder_28 rfl (by first | exact nar0 | exact nar1 | exact zb_nar _) ?_
          rw [decide_eq_true (Or.inl c_24.symm)] at hq; exact hq
  · have e : underF (nI 6) x = decide (x = nI 6 ∨ x = nI 0) := by unfold underF; congr 1; simp [show ¬ (nI 6 = nI 3) by decide, show ¬ (nI 6 = nI 5) by decide]; exact or_comm
    rw [e] at hq
    refine x_ild3 (n := 5) dX9_isUnder_4 rfl ?_
    refine x_gets (n := 8) (q := zst_KIND_ABOVE) dX9_isUnder_5 rfl (by decide) fsX9_41 ?_
    refine x_tlen (n := 9) (q := zst_KIND_ABOVE) (v := nI 7) dX9_isUnder_8 rfl (by decide) rfl rfl ?_
    refine x_icmpN_ge (n := 12) (tgt := 41) dX9_isUnder_9 rfl (by decide) (by omega) (by omega) (fun c_9 => ?_) (fun c_9 => ?_)
    · exact absurd c_9 (by omega)
    · refine x_ild2 (n := 13) dX9_isUnder_12 rfl ?_
      refine x_ic0 (n := 14) dX9_isUnder_13 rfl ?_
      refine x_bipush (n := 16) (v := nI 6) dX9_isUnder_14 rfl (by decide) ?_
      refine x_cN3 (n := 19) (d' := 0) zcX11_inside mnX9_44 dX9_isUnder_16 rfl (Nat.le_of_ble_eq_true rfl) (Nat.le_of_ble_eq_true rfl) ?_
      refine c_X11_inside true (by decide) ?_
      refine x_some ?_
      refine x_if_eq (n := 22) (tgt := 41) dX9_isUnder_19 rfl (by decide) (fun c_19 => ?_) (fun c_19 => ?_)
      · exact absurd c_19 (by decide)
      · refine x_ild2 (n := 23) dX9_isUnder_22 rfl ?_
        refine x_ild1 (n := 24) dX9_isUnder_23 rfl ?_
        refine x_icmp_ne (n := 27) (tgt := 29) dX9_isUnder_24 rfl (by decide) (fun c_24 => ?_) (fun c_24 => ?_)
        · refine x_gets (n := 32) (q := zst_KIND_ABOVE) dX9_isUnder_29 rfl (by decide) fsX9_41 ?_
          refine x_ild2 (n := 33) dX9_isUnder_32 rfl ?_
          refine x_tald (n := 34) (q := zst_KIND_ABOVE) dX9_isUnder_33 rfl (by decide) rfl (vp_in_nI (N := 7) (by first | decide | omega) (by decide)) ?_
          refine x_ist2 (n := 35) dX9_isUnder_34 rfl (by decide) rfl ?_
          refine x_iincN3 (n := 38) (k := 1) dX9_isUnder_35 rfl (by decide) rfl ?_
          refine x_goto (n := 4) dX9_isUnder_38 (by decide) ?_
          refine l_X9_u0 (by omega) ?_
          rw [show decide (x = nI 0) = decide (x = nI 6 ∨ x = nI 0) by congr 1; exact propext ⟨Or.inr, fun h => h.resolve_left (fun e => c_24 e.symm)⟩]; exact hq
        · refine x_ic1 (n := 28) dX9_isUnder_27 rfl ?_
          refine r_zret dX9_isUnder_28 rfl (by first | exact nar0 | exact nar1 | exact zb_nar _) ?_
          rw [decide_eq_true (Or.inl c_24.symm)] at hq; exact hq
theorem c_X9_begin (hW : ShW Z b) {k c y : Int32} (hq : ∀ I', (∀ a, a ≠ b → a ≠ b + 1 → I' a = I a) → (I' b 0 = k ∧ I' b 1 = c ∧ I' b 2 = y ∧ I' b 3 = nI 0 ∧ I' b 4 = nI 0 ∧ I' b 5 = nI 1 ∧ I' b 6 = nI 0 ∧ I' (b + 1) 0 = nI 0 ∧ I' (b + 1) 1 = nI 0) → Q none Z I') : zM l G mX9_begin 0 0 0 [.ref b, .int k, .int c, .int y] Z I Q := by
  refine x_entry [some (.ref b), some (.int k), some (.int c), some (.int y)] 0 rfl rfl (Nat.le_of_ble_eq_true rfl) ?_
  have hb : b + 1 ≠ b := by omega
  refine x_ald0 (n := 1) dX9_begin_0 rfl ?_
  refine x_ild1 (n := 2) dX9_begin_1 rfl ?_
  refine x_putI (n := 5) flX9_15 rfl (Or.inl rfl) rfl rfl dX9_begin_2 rfl hW.1 ?_
  refine x_ald0 (n := 6) dX9_begin_5 rfl ?_
  refine x_ild2 (n := 7) dX9_begin_6 rfl ?_
  refine x_putI (n := 10) flX9_19 rfl (Or.inl rfl) rfl rfl dX9_begin_7 rfl hW.1 ?_
  refine x_ald0 (n := 11) dX9_begin_10 rfl ?_
  refine x_ild3 (n := 12) dX9_begin_11 rfl ?_
  refine x_putI (n := 15) flX9_22 rfl (Or.inl rfl) rfl rfl dX9_begin_12 rfl hW.1 ?_
  refine x_ald0 (n := 16) dX9_begin_15 rfl ?_
  refine x_ic0 (n := 17) dX9_begin_16 rfl ?_
  refine x_putI (n := 20) flX9_25 rfl (Or.inl rfl) rfl rfl dX9_begin_17 rfl hW.1 ?_
  refine x_ald0 (n := 21) dX9_begin_20 rfl ?_
  refine x_ic0 (n := 22) dX9_begin_21 rfl ?_
  refine x_putI (n := 25) flX9_28 rfl (Or.inl rfl) rfl rfl dX9_begin_22 rfl hW.1 ?_
  refine x_ald0 (n := 26) dX9_begin_25 rfl ?_
  refine x_ic1 (n := 27) dX9_begin_26 rfl ?_
  refine x_putI (n := 30) flX9_31 rfl (Or.inl rfl) rfl rfl dX9_begin_27 rfl hW.1 ?_
  refine x_ald0 (n := 31) dX9_begin_30 rfl ?_
  refine x_ic0 (n := 32) dX9_begin_31 rfl ?_
  refine x_putI (n := 35) flX9_34 rfl (Or.inl rfl) rfl rfl dX9_begin_32 rfl hW.1 ?_
  refine x_ald0 (n := 36) dX9_begin_35 rfl ?_
  refine x_getR (n := 39) flX9_9 rfl dX9_begin_36 rfl hW.1 hW.2.1 ?_
  refine x_ic0 (n := 40) dX9_begin_39 rfl ?_
  refine x_ic0 (n := 41) dX9_begin_40 rfl ?_
  refine x_iastN (n := 42) dX9_begin_41 rfl hW.2.2 (Nat.le_of_ble_eq_true rfl) (by omega) ?_
  refine x_ald0 (n := 43) dX9_begin_42 rfl ?_
  refine x_getR (n := 46) flX9_9 rfl dX9_begin_43 rfl hW.1 hW.2.1 ?_
  refine x_ic1 (n := 47) dX9_begin_46 rfl ?_
  refine x_ic0 (n := 48) dX9_begin_47 rfl ?_
  refine x_iastN (n := 49) dX9_begin_48 rfl hW.2.2 (Nat.le_of_ble_eq_true rfl) (by omega) ?_
  refine r_vret dX9_begin_49 rfl ?_
  refine hq _ (fun a h1 h2 => ?_) ?_
  · simp [va_up, h1, h2]
  · simp [va_up, upd]
theorem c_X9_takeFrom {b2 : Nat} (hW : ShW Z b) (hW2 : ShW Z b2) (hd : b2 + 1 < b ∨ b + 1 < b2) (hq : ∀ I', (∀ a, a ≠ b → a ≠ b + 1 → I' a = I a) → (∀ j, j < 7 → I' b j = I b2 j) → (∀ j, j < 2 → I' (b + 1) j = I (b2 + 1) j) → Q none Z I') : zM l G mX9_takeFrom 1 0 0 [.ref b, .ref b2] Z I Q := by
  refine x_entry [some (.ref b), some (.ref b2)] 0 rfl rfl (Nat.le_of_ble_eq_true rfl) ?_
  have hb : b + 1 ≠ b := by omega
  refine x_ald0 (n := 1) dX9_takeFrom_0 rfl ?_
  refine x_ald1 (n := 2) dX9_takeFrom_1 rfl ?_
  refine x_getI (n := 5) flX9_15 rfl dX9_takeFrom_2 rfl hW2.1 ?_
  refine x_ald1 (n := 6) dX9_takeFrom_5 rfl ?_
  refine x_getI (n := 9) flX9_19 rfl dX9_takeFrom_6 rfl hW2.1 ?_
  refine x_ald1 (n := 10) dX9_takeFrom_9 rfl ?_
  refine x_getI (n := 13) flX9_22 rfl dX9_takeFrom_10 rfl hW2.1 ?_
  refine x_cV3 (n := 16) (d' := 0) zcX9_begin mlX9_37 dX9_takeFrom_13 rfl hW.1 (Nat.le_of_ble_eq_true rfl) (Nat.le_of_ble_eq_true rfl) ?_
  refine c_X9_begin hW ?_
  intro I1 ho hv
  have ho2 := ho b2 (by omega) (by omega)
  have ho3 := ho (b2 + 1) (by omega) (by omega)
  refine x_none ?_
  refine x_ald0 (n := 17) dX9_takeFrom_16 rfl ?_
  refine x_ald1 (n := 18) dX9_takeFrom_17 rfl ?_
  refine x_getI (n := 21) flX9_25 rfl dX9_takeFrom_18 rfl hW2.1 ?_
  refine x_putI (n := 24) flX9_25 rfl (Or.inl rfl) rfl rfl dX9_takeFrom_21 rfl hW.1 ?_
  refine x_ald0 (n := 25) dX9_takeFrom_24 rfl ?_
  refine x_ald1 (n := 26) dX9_takeFrom_25 rfl ?_
  refine x_getI (n := 29) flX9_28 rfl dX9_takeFrom_26 rfl hW2.1 ?_
  refine x_putI (n := 32) flX9_28 rfl (Or.inl rfl) rfl rfl dX9_takeFrom_29 rfl hW.1 ?_
  refine x_ald0 (n := 33) dX9_takeFrom_32 rfl ?_
  refine x_ald1 (n := 34) dX9_takeFrom_33 rfl ?_
  refine x_getI (n := 37) flX9_31 rfl dX9_takeFrom_34 rfl hW2.1 ?_
  refine x_putI (n := 40) flX9_31 rfl (Or.inl rfl) rfl rfl dX9_takeFrom_37 rfl hW.1 ?_
  refine x_ald0 (n := 41) dX9_takeFrom_40 rfl ?_
  refine x_ald1 (n := 42) dX9_takeFrom_41 rfl ?_
  refine x_getI (n := 45) flX9_34 rfl dX9_takeFrom_42 rfl hW2.1 ?_
  refine x_putI (n := 48) flX9_34 rfl (Or.inl rfl) rfl rfl dX9_takeFrom_45 rfl hW.1 ?_
  refine x_ald0 (n := 49) dX9_takeFrom_48 rfl ?_
  refine x_getR (n := 52) flX9_9 rfl dX9_takeFrom_49 rfl hW.1 hW.2.1 ?_
  refine x_ic0 (n := 53) dX9_takeFrom_52 rfl ?_
  refine x_ald1 (n := 54) dX9_takeFrom_53 rfl ?_
  refine x_getR (n := 57) flX9_9 rfl dX9_takeFrom_54 rfl hW2.1 hW2.2.1 ?_
  refine x_ic0 (n := 58) dX9_takeFrom_57 rfl ?_
  refine x_ialdN (n := 59) dX9_takeFrom_58 rfl hW2.2.2 (Nat.le_of_ble_eq_true rfl) (by omega) ?_
  refine x_iastN (n := 60) dX9_takeFrom_59 rfl hW.2.2 (Nat.le_of_ble_eq_true rfl) (by omega) ?_
  refine x_ald0 (n := 61) dX9_takeFrom_60 rfl ?_
  refine x_getR (n := 64) flX9_9 rfl dX9_takeFrom_61 rfl hW.1 hW.2.1 ?_
  refine x_ic1 (n := 65) dX9_takeFrom_64 rfl ?_
  refine x_ald1 (n := 66) dX9_takeFrom_65 rfl ?_
  refine x_getR (n := 69) flX9_9 rfl dX9_takeFrom_66 rfl hW2.1 hW2.2.1 ?_
  refine x_ic1 (n := 70) dX9_takeFrom_69 rfl ?_
  refine x_ialdN (n := 71) dX9_takeFrom_70 rfl hW2.2.2 (Nat.le_of_ble_eq_true rfl) (by omega) ?_
  refine x_iastN (n := 72) dX9_takeFrom_71 rfl hW.2.2 (Nat.le_of_ble_eq_true rfl) (by omega) ?_
  refine r_vret dX9_takeFrom_72 rfl ?_
  obtain ⟨v0, v1, v2, v3, v4, v5, v6, v7, v8⟩ := hv
  have n1 : b2 ≠ b := by omega
  have n2 : b2 ≠ b + 1 := by omega
  have n3 : b2 + 1 ≠ b := by omega
  have n4 : ¬ b2 = b := by omega
  refine hq _ (fun a h1 h2 => ?_) (fun j hj => ?_) (fun j hj => ?_)
  · simp [va_up, h1, h2]; exact ho a h1 h2
  · rcases (by omega : j = 0 ∨ j = 1 ∨ j = 2 ∨ j = 3 ∨ j = 4 ∨ j = 5 ∨ j = 6) with rfl | rfl | rfl | rfl | rfl | rfl | rfl <;> simp [va_up, upd, n1, n2, n3, ho2, ho3, v0, v1, v2, v3, v4, v5, v6]
  · rcases (by omega : j = 0 ∨ j = 1) with rfl | rfl <;> simp [va_up, upd, n1, n2, n3, ho2, ho3]
end
