section
variable {l : Launch} {G : zG} {Z : zS} {I I' : zI} {g g' : Nat → Int32} {mk b : Nat} {Q : Option Value → zS → zI → Prop}
theorem zin_lt {x : Int32} {n : Nat} (h : zin x 0 ((n : Int) - 1) = true) (hn : n < 2147483648) : ix x < n ∧ x = nI (ix x) := by
  obtain ⟨c, hc, rfl⟩ := z_chain h
  rw [ix_nI (by omega)]
  exact ⟨hc, rfl⟩
theorem tL_work (hS : ShL Z) (hC : CM Z I 1 g) (hB : InvB g) {x y v : Int32} (hq : ∀ I', offM 1 I I' → CM Z I' 1 (f_work g x y v).2 → Q (some (.int (f_work g x y v).1)) Z I') : zM l G mX11_work 2 0 0 [.ref 0, .int x, .int y, .int v] Z I Q := by
  refine x_entry [some (.ref 0), some (.int x), some (.int y), some (.int v)] 0 rfl rfl (Nat.le_of_ble_eq_true rfl) ?_
  have hM := lM1 hS
  have h24 := (iv1 hB).2
  unfold f_work at hq
  refine x_ild1 (n := 1) dX11_work_0 rfl ?_
  refine x_ic0 (n := 2) dX11_work_1 rfl ?_
  refine x_bipush (n := 4) (v := nI 6) dX11_work_2 rfl (by decide) ?_
  refine x_cS3 (n := 7) (d' := 0) zcX11_inside mlX11_50 dX11_work_4 rfl (Nat.le_of_ble_eq_true rfl) (Nat.le_of_ble_eq_true rfl) ?_
  refine c_X11_inside (zin x 0 6) (by unfold zin; rfl) ?_
  refine x_some ?_
  refine x_zif_eq (n := 10) (tgt := 15) dX11_work_7 rfl (by decide) (fun c_7 => ?_) (fun c_7 => ?_)
  · refine x_ldc (n := 17) dX11_work_15 rfl kiX11_54 ?_
    refine r_iret dX11_work_17 rfl ?_
    first | (have h0 : x = nI 5 := c_12; rw [if_neg (fun h => h.2.1 h0)] at hq; exact hq I offM_refl hC) | (have h0 : zin x 0 6 = false := c_7; rw [if_neg (by rintro ⟨h, _⟩; rw [h0] at h; cases h)] at hq; exact hq I offM_refl hC)
  · refine x_ild1 (n := 11) dX11_work_10 rfl ?_
    refine x_ic5 (n := 12) dX11_work_11 rfl ?_
    refine x_icmp_ne (n := 15) (tgt := 18) dX11_work_12 rfl (by decide) (fun c_12 => ?_) (fun c_12 => ?_)
    · refine x_ald0 (n := 19) dX11_work_18 rfl ?_
      refine x_getR (n := 22) flX11_10 rfl dX11_work_19 rfl (lK_L hS) (lP_M hS) ?_
      refine x_getR (n := 25) flX11_65 rfl dX11_work_22 rfl (mK_M hM) (mP_Gr hM) ?_
      refine x_ild2 (n := 26) dX11_work_25 rfl ?_
      refine x_cV1 (n := 29) (d' := 0) zcX1_has mlX11_74 dX11_work_26 rfl (mK_Gr hM) (Nat.le_of_ble_eq_true rfl) (Nat.le_of_ble_eq_true rfl) ?_
      refine c_X1_has hM hC.1 hB ?_
      refine x_some ?_
      refine x_zif_eq (n := 32) (tgt := 43) dX11_work_29 rfl (by decide) (fun c_29 => ?_) (fun c_29 => ?_)
      · refine x_ldc (n := 45) dX11_work_43 rfl kiX11_54 ?_
        refine r_iret dX11_work_45 rfl ?_
        first | (have h0 : zin v 1 9999 = false := c_40; rw [if_neg (by rintro ⟨_, _, _, h⟩; rw [h0] at h; cases h)] at hq; exact hq I offM_refl hC) | (have h0 : zin y 0 ((vN g 0 : Int) - 1) = false := c_29; rw [if_neg (by rintro ⟨_, _, h, _⟩; rw [h0] at h; cases h)] at hq; exact hq I offM_refl hC)
      · refine x_ild3 (n := 33) dX11_work_32 rfl ?_
        refine x_ic1 (n := 34) dX11_work_33 rfl ?_
        refine x_sipush (n := 37) (v := nI 9999) dX11_work_34 rfl (by decide) ?_
        refine x_cS3 (n := 40) (d' := 0) zcX11_inside mlX11_50 dX11_work_37 rfl (Nat.le_of_ble_eq_true rfl) (Nat.le_of_ble_eq_true rfl) ?_
        refine c_X11_inside (zin v 1 9999) (by unfold zin; rfl) ?_
        refine x_some ?_
        refine x_zif_ne (n := 43) (tgt := 46) dX11_work_40 rfl (by decide) (fun c_40 => ?_) (fun c_40 => ?_)
        · refine x_ald0 (n := 47) dX11_work_46 rfl ?_
          refine x_getR (n := 50) flX11_10 rfl dX11_work_47 rfl (lK_L hS) (lP_M hS) ?_
          refine x_getR (n := 53) flX11_55 rfl dX11_work_50 rfl (mK_M hM) (mP_Ws hM) ?_
          refine x_ild1 (n := 54) dX11_work_53 rfl ?_
          refine x_ild2 (n := 55) dX11_work_54 rfl ?_
          refine x_ild3 (n := 56) dX11_work_55 rfl ?_
          rw [if_pos ⟨c_7, c_12, c_29, c_40⟩] at hq
          by_cases hfu : vN g 1 = 24
          · rw [if_pos hfu] at hq
            refine x_cV3 (n := 59) (d' := 1) zcX10_addWork mlX11_138 dX11_work_56 rfl (mK_Ws hM) (Nat.le_of_ble_eq_true rfl) (Nat.le_of_ble_eq_true rfl) ?_
            refine c_X10_addWorkF hM hC hB hfu ?_
            refine x_some ?_
            refine r_iret dX11_work_59 rfl ?_
            exact hq I offM_refl hC
          rw [if_neg hfu] at hq
          refine x_cV3 (n := 59) (d' := 1) zcX10_addWork mlX11_138 dX11_work_56 rfl (mK_Ws hM) (Nat.le_of_ble_eq_true rfl) (Nat.le_of_ble_eq_true rfl) ?_
          refine c_X10_addWork hM hC hB (by omega) (by omega) (fun I1 h1 h2 => ?_)
          refine x_some ?_
          refine r_iret dX11_work_59 rfl ?_
          exact hq I1 h1 h2
        · refine x_ldc (n := 45) dX11_work_43 rfl kiX11_54 ?_
          refine r_iret dX11_work_45 rfl ?_
          first | (have h0 : zin v 1 9999 = false := c_40; rw [if_neg (by rintro ⟨_, _, _, h⟩; rw [h0] at h; cases h)] at hq; exact hq I offM_refl hC) | (have h0 : zin y 0 ((vN g 0 : Int) - 1) = false := c_29; rw [if_neg (by rintro ⟨_, _, h, _⟩; rw [h0] at h; cases h)] at hq; exact hq I offM_refl hC)
    · refine x_ldc (n := 17) dX11_work_15 rfl kiX11_54 ?_
      refine r_iret dX11_work_17 rfl ?_
      first | (have h0 : x = nI 5 := c_12; rw [if_neg (fun h => h.2.1 h0)] at hq; exact hq I offM_refl hC) | (have h0 : zin x 0 6 = false := c_7; rw [if_neg (by rintro ⟨h, _⟩; rw [h0] at h; cases h)] at hq; exact hq I offM_refl hC)
theorem tL_told (hS : ShL Z) (hC : CM Z I 1 g) (hB : InvB g) {x y : Int32} (hq : Q (some (.int (f_told g x y))) Z I) : zM l G mX11_told 3 0 0 [.ref 0, .int x, .int y] Z I Q := by
  refine x_entry [some (.ref 0), some (.int x), some (.int y), none, none] 2 rfl rfl (Nat.le_of_ble_eq_true rfl) ?_
  have hM := lM1 hS
  have h24 := (iv1 hB).2
  have h8 := (iv8 hB).2
  unfold f_told at hq
  by_cases hx : zin x 0 ((vN g 1 : Int) - 1) = true
  · obtain ⟨w, hw, rfl⟩ := z_chain hx
    rw [ix_nI (by omega)] at hq
    obtain ⟨c1, c2⟩ := w_chain hB hw
    obtain ⟨s1, s2⟩ := w_str hB hw
    refine x_ald0 (n := 1) dX11_told_0 rfl ?_
    refine x_getR (n := 4) flX11_10 rfl dX11_told_1 rfl (lK_L hS) (lP_M hS) ?_
    refine x_getR (n := 7) flX11_55 rfl dX11_told_4 rfl (mK_M hM) (mP_Ws hM) ?_
    refine x_ild1 (n := 8) dX11_told_7 rfl ?_
    refine x_cV1 (n := 11) (d' := 1) zcX10_numbered mlX11_142 dX11_told_8 rfl (mK_Ws hM) (Nat.le_of_ble_eq_true rfl) (Nat.le_of_ble_eq_true rfl) ?_
    refine c_X10_numbered hM hC.2.1 hB hw ?_
    refine x_some ?_
    refine x_ast3 (n := 12) dX11_told_11 rfl (by decide) rfl ?_
    refine x_ald3 (n := 13) dX11_told_12 rfl ?_
    refine x_ifnull (n := 16) dX11_told_13 rfl ?_
    refine x_ild2 (n := 17) dX11_told_16 rfl ?_
    refine x_ic0 (n := 18) dX11_told_17 rfl ?_
    refine x_bipush (n := 20) (v := nI 12) dX11_told_18 rfl (by decide) ?_
    refine x_cS3 (n := 23) (d' := 0) zcX11_inside mlX11_50 dX11_told_20 rfl (Nat.le_of_ble_eq_true rfl) (Nat.le_of_ble_eq_true rfl) ?_
    refine c_X11_inside (zin y 0 12) (by unfold zin; rfl) ?_
    refine x_some ?_
    refine x_zif_ne (n := 26) (tgt := 29) dX11_told_23 rfl (by decide) (fun c_23 => ?_) (fun c_23 => ?_)
    · rw [if_pos ⟨hx, c_23⟩] at hq
      obtain ⟨j, hj, hj2, rfl⟩ := z_num 13 c_23 (by omega)
      rw [ix_nI (by omega)] at hq
      have hz : ∀ i, i < 13 → nI j = nI i → j = i := fun i hi h => (nI_eq (by omega) (by omega)).mp h
      refine x_ald0 (n := 30) dX11_told_29 rfl ?_
      refine x_getR (n := 33) flX11_10 rfl dX11_told_30 rfl (lK_L hS) (lP_M hS) ?_
      refine x_getR (n := 36) flX11_65 rfl dX11_told_33 rfl (mK_M hM) (mP_Gr hM) ?_
      refine x_ald3 (n := 37) dX11_told_36 rfl ?_
      refine x_getI (n := 40) flX11_146 rfl dX11_told_37 rfl (mK_W hM (by omega)) ?_
      rw [cW1 hC.2.1 hw, c1]
      refine x_cV1 (n := 43) (d' := 1) zcX1_stratumOf mlX11_89 dX11_told_40 rfl (mK_Gr hM) (Nat.le_of_ble_eq_true rfl) (Nat.le_of_ble_eq_true rfl) ?_
      refine c_X1_stratumOf hM hC.1 hB c2 ?_
      refine x_some ?_
      rw [show g (20 + 4 * vN g (120 + 10 * w + 1) + 2) = nI (vN g (20 + 4 * vN g (120 + 10 * w + 1) + 2)) from s1]
      refine x_ist4 (n := 45) dX11_told_43 rfl (by decide) rfl ?_
      refine x_ild2 (n := 46) dX11_told_45 rfl ?_
      rcases zsw4_8 (nI j) with hsw | hsw | hsw | hsw | hsw | hsw
      · refine x_tswO (n := 120) dX11_told_46 hsw (by decide) ?_
        refine x_ald3 (n := 121) dX11_told_120 rfl ?_
        refine x_ild2 (n := 122) dX11_told_121 rfl ?_
        refine x_cV1 (n := 125) (d' := 2) zcX9_toldOf mlX11_164 dX11_told_122 rfl (mK_W hM (by omega)) (Nat.le_of_ble_eq_true rfl) (Nat.le_of_ble_eq_true rfl) ?_
        refine c_X9_toldOf (mS_W hM (by omega)) (by omega) ?_
        refine x_some ?_
        refine r_iret dX11_told_125 rfl ?_
        have htd : ∀ i, i ≠ 4 → i ≠ 7 → i ≠ 8 → tdN I (1 + 15 + 2 * w) i = toldN g w i := by
          intro i i4 i7 i8
          match i, i4, i7, i8 with
          | 0, _, _, _ => exact cW0 hC.2.1 hw
          | 1, _, _, _ => exact cW1 hC.2.1 hw
          | 2, _, _, _ => exact cW2 hC.2.1 hw
          | 3, _, _, _ => exact cW3 hC.2.1 hw
          | 5, _, _, _ => exact cW4 hC.2.1 hw
          | 6, _, _, _ => exact cW5 hC.2.1 hw
          | 9, _, _, _ => exact cW7 hC.2.1 hw
          | 10, _, _, _ => exact cW8 hC.2.1 hw
          | 11, _, _, _ => show minI _ _ = gJoin g w; rw [cW3 hC.2.1 hw, cW7 hC.2.1 hw, cW8 hC.2.1 hw]; rfl
          | 12, _, _, _ => exact cW6 hC.2.1 hw
          | i + 13, _, _, _ => rfl
        have hnj : (nI j).toInt = (j : Int) := nI_toInt (by omega)
        first | (have h5 : j = 5 := hz _ (by omega) hsw; rw [htd j (by omega) (by omega) (by omega)]; exact hq) | (have h5 : j = 6 := hz _ (by omega) hsw; rw [htd j (by omega) (by omega) (by omega)]; exact hq) | (have h5 : (nI j).toInt < 4 ∨ 8 < (nI j).toInt := hsw; rw [htd j (by omega) (by omega) (by omega)]; exact hq)
      · refine x_top hsw ?_
        refine x_tswI (n := 80) (off := 34) dX11_told_46 (by decide) (by decide) (by decide +kernel) (by decide) ?_
        refine x_ald0 (n := 81) dX11_told_80 rfl ?_
        refine x_getR (n := 84) flX11_10 rfl dX11_told_81 rfl (lK_L hS) (lP_M hS) ?_
        refine x_getR (n := 87) flX11_55 rfl dX11_told_84 rfl (mK_M hM) (mP_Ws hM) ?_
        refine x_ild1 (n := 88) dX11_told_87 rfl ?_
        refine x_cV1 (n := 91) (d' := 0) zcX10_gangAt mlX11_149 dX11_told_88 rfl (mK_Ws hM) (Nat.le_of_ble_eq_true rfl) (Nat.le_of_ble_eq_true rfl) ?_
        refine c_X10_gangAt hM hC.2.2.1 hB hw ?_
        refine x_some ?_
        refine r_iret dX11_told_91 rfl ?_
        rw [hz _ (by omega) hsw] at hq; exact hq
      · refine x_top hsw ?_
        refine x_tswI (n := 120) (off := 74) dX11_told_46 (by decide) (by decide) (by decide +kernel) (by decide) ?_
        refine x_ald3 (n := 121) dX11_told_120 rfl ?_
        refine x_ild2 (n := 122) dX11_told_121 rfl ?_
        refine x_cV1 (n := 125) (d' := 2) zcX9_toldOf mlX11_164 dX11_told_122 rfl (mK_W hM (by omega)) (Nat.le_of_ble_eq_true rfl) (Nat.le_of_ble_eq_true rfl) ?_
        refine c_X9_toldOf (mS_W hM (by omega)) (by omega) ?_
        refine x_some ?_
        refine r_iret dX11_told_125 rfl ?_
        have htd : ∀ i, i ≠ 4 → i ≠ 7 → i ≠ 8 → tdN I (1 + 15 + 2 * w) i = toldN g w i := by
          intro i i4 i7 i8
          match i, i4, i7, i8 with
          | 0, _, _, _ => exact cW0 hC.2.1 hw
          | 1, _, _, _ => exact cW1 hC.2.1 hw
          | 2, _, _, _ => exact cW2 hC.2.1 hw
          | 3, _, _, _ => exact cW3 hC.2.1 hw
          | 5, _, _, _ => exact cW4 hC.2.1 hw
          | 6, _, _, _ => exact cW5 hC.2.1 hw
          | 9, _, _, _ => exact cW7 hC.2.1 hw
          | 10, _, _, _ => exact cW8 hC.2.1 hw
          | 11, _, _, _ => show minI _ _ = gJoin g w; rw [cW3 hC.2.1 hw, cW7 hC.2.1 hw, cW8 hC.2.1 hw]; rfl
          | 12, _, _, _ => exact cW6 hC.2.1 hw
          | i + 13, _, _, _ => rfl
        have hnj : (nI j).toInt = (j : Int) := nI_toInt (by omega)
        first | (have h5 : j = 5 := hz _ (by omega) hsw; rw [htd j (by omega) (by omega) (by omega)]; exact hq) | (have h5 : j = 6 := hz _ (by omega) hsw; rw [htd j (by omega) (by omega) (by omega)]; exact hq) | (have h5 : (nI j).toInt < 4 ∨ 8 < (nI j).toInt := hsw; rw [htd j (by omega) (by omega) (by omega)]; exact hq)
      · refine x_top hsw ?_
        refine x_tswI (n := 120) (off := 74) dX11_told_46 (by decide) (by decide) (by decide +kernel) (by decide) ?_
        refine x_ald3 (n := 121) dX11_told_120 rfl ?_
        refine x_ild2 (n := 122) dX11_told_121 rfl ?_
        refine x_cV1 (n := 125) (d' := 2) zcX9_toldOf mlX11_164 dX11_told_122 rfl (mK_W hM (by omega)) (Nat.le_of_ble_eq_true rfl) (Nat.le_of_ble_eq_true rfl) ?_
        refine c_X9_toldOf (mS_W hM (by omega)) (by omega) ?_
        refine x_some ?_
        refine r_iret dX11_told_125 rfl ?_
        have htd : ∀ i, i ≠ 4 → i ≠ 7 → i ≠ 8 → tdN I (1 + 15 + 2 * w) i = toldN g w i := by
          intro i i4 i7 i8
          match i, i4, i7, i8 with
          | 0, _, _, _ => exact cW0 hC.2.1 hw
          | 1, _, _, _ => exact cW1 hC.2.1 hw
          | 2, _, _, _ => exact cW2 hC.2.1 hw
          | 3, _, _, _ => exact cW3 hC.2.1 hw
          | 5, _, _, _ => exact cW4 hC.2.1 hw
          | 6, _, _, _ => exact cW5 hC.2.1 hw
          | 9, _, _, _ => exact cW7 hC.2.1 hw
          | 10, _, _, _ => exact cW8 hC.2.1 hw
          | 11, _, _, _ => show minI _ _ = gJoin g w; rw [cW3 hC.2.1 hw, cW7 hC.2.1 hw, cW8 hC.2.1 hw]; rfl
          | 12, _, _, _ => exact cW6 hC.2.1 hw
          | i + 13, _, _, _ => rfl
        have hnj : (nI j).toInt = (j : Int) := nI_toInt (by omega)
        first | (have h5 : j = 5 := hz _ (by omega) hsw; rw [htd j (by omega) (by omega) (by omega)]; exact hq) | (have h5 : j = 6 := hz _ (by omega) hsw; rw [htd j (by omega) (by omega) (by omega)]; exact hq) | (have h5 : (nI j).toInt < 4 ∨ 8 < (nI j).toInt := hsw; rw [htd j (by omega) (by omega) (by omega)]; exact hq)
      · refine x_top hsw ?_
        refine x_tswI (n := 92) (off := 46) dX11_told_46 (by decide) (by decide) (by decide +kernel) (by decide) ?_
        refine x_ald3 (n := 93) dX11_told_92 rfl ?_
        refine x_ild4 (n := 95) dX11_told_93 rfl ?_
        refine x_ald0 (n := 96) dX11_told_95 rfl ?_
        refine x_getR (n := 99) flX11_10 rfl dX11_told_96 rfl (lK_L hS) (lP_M hS) ?_
        refine x_ald0 (n := 100) dX11_told_99 rfl ?_
        refine x_getR (n := 103) flX11_10 rfl dX11_told_100 rfl (lK_L hS) (lP_M hS) ?_
        refine x_getI (n := 106) flX11_152 rfl dX11_told_103 rfl (mK_M hM) ?_
        rw [vD8 hC.2.2.2.2.2.2.2 hB]
        refine x_cV1 (n := 109) (d' := 1) zcX2_wetOn mlX11_155 dX11_told_106 rfl (mK_M hM) (Nat.le_of_ble_eq_true rfl) (Nat.le_of_ble_eq_true rfl) ?_
        refine c_X2_wetOn hM hC.2.2.2.2.2.2.2 (by omega) ?_
        refine x_some ?_
        refine x_cV2 (n := 112) (d' := 2) zcX9_rateIn mlX11_158 dX11_told_109 rfl (mK_W hM (by omega)) (Nat.le_of_ble_eq_true rfl) (Nat.le_of_ble_eq_true rfl) ?_
        refine c_X9_rateIn (mS_W hM (by omega)) s2 ?_
        refine x_some ?_
        refine r_iret dX11_told_112 rfl ?_
        rw [hz _ (by omega) hsw] at hq
        rw [cW0 hC.2.1 hw, ← s1]; exact hq
      · refine x_top hsw ?_
        refine x_tswI (n := 113) (off := 67) dX11_told_46 (by decide) (by decide) (by decide +kernel) (by decide) ?_
        refine x_ald3 (n := 114) dX11_told_113 rfl ?_
        refine x_ild4 (n := 116) dX11_told_114 rfl ?_
        refine x_cV1 (n := 119) (d' := 0) zcX9_worthIn mlX11_161 dX11_told_116 rfl (mK_W hM (by omega)) (Nat.le_of_ble_eq_true rfl) (Nat.le_of_ble_eq_true rfl) ?_
        refine c_X9_worthIn (mS_W hM (by omega)) ?_
        refine x_some ?_
        refine r_iret dX11_told_119 rfl ?_
        rw [hz _ (by omega) hsw] at hq
        rw [cW0 hC.2.1 hw, ← s1]; exact hq
    · refine x_ldc (n := 28) dX11_told_26 rfl kiX11_54 ?_
      refine r_iret dX11_told_28 rfl ?_
      rw [if_neg (by rintro ⟨_, h⟩; rw [c_23] at h; cases h)] at hq; exact hq
  · rw [if_neg (fun h => hx h.1)] at hq
    refine x_ald0 (n := 1) dX11_told_0 rfl ?_
    refine x_getR (n := 4) flX11_10 rfl dX11_told_1 rfl (lK_L hS) (lP_M hS) ?_
    refine x_getR (n := 7) flX11_55 rfl dX11_told_4 rfl (mK_M hM) (mP_Ws hM) ?_
    refine x_ild1 (n := 8) dX11_told_7 rfl ?_
    refine x_cV1 (n := 11) (d' := 1) zcX10_numbered mlX11_142 dX11_told_8 rfl (mK_Ws hM) (Nat.le_of_ble_eq_true rfl) (Nat.le_of_ble_eq_true rfl) ?_
    refine c_X10_numberedN hM hC.2.1 hB (Bool.eq_false_iff.mpr hx) ?_
    refine x_some ?_
    refine x_nst3 (n := 12) dX11_told_11 rfl (by decide) rfl ?_
    refine x_nld3 (n := 13) dX11_told_12 rfl ?_
    refine x_ifnullN (n := 26) dX11_told_13 (by decide) ?_
    refine x_ldc (n := 28) dX11_told_26 rfl kiX11_54 ?_
    refine r_iret dX11_told_28 rfl ?_
    exact hq
theorem tL_as (hS : ShL Z) (hC : CM Z I 1 g) (hB : InvB g) {x y : Int32} (hq : Q (some (.int (f_as g x y))) Z I) : zM l G mX11_as 2 0 0 [.ref 0, .int x, .int y] Z I Q := by
  refine x_entry [some (.ref 0), some (.int x), some (.int y), none] 1 rfl rfl (Nat.le_of_ble_eq_true rfl) ?_
  have hM := lM1 hS
  have h24 := (iv1 hB).2
  unfold f_as at hq
  by_cases hx : zin x 0 ((vN g 1 : Int) - 1) = true
  · obtain ⟨w, hw, rfl⟩ := z_chain hx
    rw [ix_nI (by omega)] at hq
    have hkd := (ivW hB hw).1
    have ek := rg_nI hkd (by omega) (by omega)
    have lk := rg_le hkd (by omega)
    refine x_ald0 (n := 1) dX11_as_0 rfl ?_
    refine x_getR (n := 4) flX11_10 rfl dX11_as_1 rfl (lK_L hS) (lP_M hS) ?_
    refine x_getR (n := 7) flX11_55 rfl dX11_as_4 rfl (mK_M hM) (mP_Ws hM) ?_
    refine x_ild1 (n := 8) dX11_as_7 rfl ?_
    refine x_cV1 (n := 11) (d' := 1) zcX10_numbered mlX11_142 dX11_as_8 rfl (mK_Ws hM) (Nat.le_of_ble_eq_true rfl) (Nat.le_of_ble_eq_true rfl) ?_
    refine c_X10_numbered hM hC.2.1 hB hw ?_
    refine x_some ?_
    refine x_ast3 (n := 12) dX11_as_11 rfl (by decide) rfl ?_
    refine x_ald3 (n := 13) dX11_as_12 rfl ?_
    refine x_ifnull (n := 16) dX11_as_13 rfl ?_
    refine x_ild2 (n := 17) dX11_as_16 rfl ?_
    refine x_ic0 (n := 18) dX11_as_17 rfl ?_
    refine x_bipush (n := 20) (v := nI 6) dX11_as_18 rfl (by decide) ?_
    refine x_cS3 (n := 23) (d' := 0) zcX11_inside mlX11_50 dX11_as_20 rfl (Nat.le_of_ble_eq_true rfl) (Nat.le_of_ble_eq_true rfl) ?_
    refine c_X11_inside (zin y 0 6) (by unfold zin; rfl) ?_
    refine x_some ?_
    refine x_zif_ne (n := 26) (tgt := 29) dX11_as_23 rfl (by decide) (fun c_23 => ?_) (fun c_23 => ?_)
    · rw [if_pos ⟨hx, c_23⟩, ek] at hq
      refine x_ald3 (n := 30) dX11_as_29 rfl ?_
      refine x_getI (n := 33) flX11_167 rfl dX11_as_30 rfl (mK_W hM (by omega)) ?_
      refine x_ild2 (n := 34) dX11_as_33 rfl ?_
      rw [cW0 hC.2.1 hw, ek]
      refine x_cS2 (n := 37) (d' := 1) zcX9_isUnder mlX11_170 dX11_as_34 rfl (Nat.le_of_ble_eq_true rfl) (Nat.le_of_ble_eq_true rfl) ?_
      refine c_X9_isUnder (by omega) ?_
      refine x_some ?_
      refine x_zif_eq (n := 40) (tgt := 47) dX11_as_37 rfl (by decide) (fun c_37 => ?_) (fun c_37 => ?_)
      · refine x_ldc (n := 49) dX11_as_47 rfl kiX11_176 ?_
        refine r_iret dX11_as_49 rfl ?_
        first | (rw [if_pos c_37] at hq; rw [cW2 hC.2.1 hw]; exact hq) | (rw [if_neg (by rw [c_37]; decide)] at hq; exact hq)
      · refine x_ald3 (n := 41) dX11_as_40 rfl ?_
        refine x_getI (n := 44) flX11_173 rfl dX11_as_41 rfl (mK_W hM (by omega)) ?_
        refine x_goto (n := 49) dX11_as_44 (by decide) ?_
        refine r_iret dX11_as_49 rfl ?_
        first | (rw [if_pos c_37] at hq; rw [cW2 hC.2.1 hw]; exact hq) | (rw [if_neg (by rw [c_37]; decide)] at hq; exact hq)
    · refine x_ldc (n := 28) dX11_as_26 rfl kiX11_54 ?_
      refine r_iret dX11_as_28 rfl ?_
      rw [if_neg (by rintro ⟨_, h⟩; rw [c_23] at h; cases h)] at hq; exact hq
  · rw [if_neg (fun h => hx h.1)] at hq
    refine x_ald0 (n := 1) dX11_as_0 rfl ?_
    refine x_getR (n := 4) flX11_10 rfl dX11_as_1 rfl (lK_L hS) (lP_M hS) ?_
    refine x_getR (n := 7) flX11_55 rfl dX11_as_4 rfl (mK_M hM) (mP_Ws hM) ?_
    refine x_ild1 (n := 8) dX11_as_7 rfl ?_
    refine x_cV1 (n := 11) (d' := 1) zcX10_numbered mlX11_142 dX11_as_8 rfl (mK_Ws hM) (Nat.le_of_ble_eq_true rfl) (Nat.le_of_ble_eq_true rfl) ?_
    refine c_X10_numberedN hM hC.2.1 hB (Bool.eq_false_iff.mpr hx) ?_
    refine x_some ?_
    refine x_nst3 (n := 12) dX11_as_11 rfl (by decide) rfl ?_
    refine x_nld3 (n := 13) dX11_as_12 rfl ?_
    refine x_ifnullN (n := 26) dX11_as_13 (by decide) ?_
    refine x_ldc (n := 28) dX11_as_26 rfl kiX11_54 ?_
    refine r_iret dX11_as_28 rfl ?_
    exact hq
theorem tL_ahead (hS : ShL Z) (hC : CM Z I 1 g) (hB : InvB g) {x y : Int32} (hq : ∀ I', offM 1 I I' → CM Z I' 1 (f_ahead g x y).2 → Q (some (.int (f_ahead g x y).1)) Z I') : zM l G mX11_ahead 2 0 0 [.ref 0, .int x, .int y] Z I Q := by
  refine x_entry [some (.ref 0), some (.int x), some (.int y), none, none] 2 rfl rfl (Nat.le_of_ble_eq_true rfl) ?_
  have hM := lM1 hS
  have h24 := (iv1 hB).2
  unfold f_ahead at hq
  by_cases hx : zin x 0 ((vN g 1 : Int) - 1) = true
  · obtain ⟨w, hw, rfl⟩ := z_chain hx
    rw [ix_nI (by omega)] at hq
    refine x_ald0 (n := 1) dX11_ahead_0 rfl ?_
    refine x_getR (n := 4) flX11_10 rfl dX11_ahead_1 rfl (lK_L hS) (lP_M hS) ?_
    refine x_getR (n := 7) flX11_55 rfl dX11_ahead_4 rfl (mK_M hM) (mP_Ws hM) ?_
    refine x_ild1 (n := 8) dX11_ahead_7 rfl ?_
    refine x_cV1 (n := 11) (d' := 1) zcX10_numbered mlX11_142 dX11_ahead_8 rfl (mK_Ws hM) (Nat.le_of_ble_eq_true rfl) (Nat.le_of_ble_eq_true rfl) ?_
    refine c_X10_numbered hM hC.2.1 hB hw ?_
    refine x_some ?_
    refine x_ast3 (n := 12) dX11_ahead_11 rfl (by decide) rfl ?_
    refine x_ald3 (n := 13) dX11_ahead_12 rfl ?_
    refine x_ifnull (n := 16) dX11_ahead_13 rfl ?_
    refine x_ild2 (n := 17) dX11_ahead_16 rfl ?_
    refine x_ic0 (n := 18) dX11_ahead_17 rfl ?_
    refine x_ldc (n := 20) dX11_ahead_18 rfl kiX11_177 ?_
    refine x_cS3 (n := 23) (d' := 0) zcX11_inside mlX11_50 dX11_ahead_20 rfl (Nat.le_of_ble_eq_true rfl) (Nat.le_of_ble_eq_true rfl) ?_
    refine c_X11_inside (zin y 0 16777215) (by unfold zin; rfl) ?_
    refine x_some ?_
    refine x_zif_ne (n := 26) (tgt := 29) dX11_ahead_23 rfl (by decide) (fun c_23 => ?_) (fun c_23 => ?_)
    · rw [if_pos ⟨hx, c_23⟩] at hq
      refine x_ald3 (n := 30) dX11_ahead_29 rfl ?_
      refine x_getI (n := 33) flX11_178 rfl dX11_ahead_30 rfl (mK_W hM (by omega)) ?_
      rw [cW4 hC.2.1 hw]
      refine x_ist4 (n := 35) dX11_ahead_33 rfl (by decide) rfl ?_
      refine x_ald3 (n := 36) dX11_ahead_35 rfl ?_
      refine x_ild2 (n := 37) dX11_ahead_36 rfl ?_
      refine x_putI (n := 40) flX11_178 rfl (Or.inl rfl) rfl rfl dX11_ahead_37 rfl (mK_W hM (by omega)) ?_
      refine x_ild4 (n := 42) dX11_ahead_40 rfl ?_
      refine r_iret dX11_ahead_42 rfl ?_
      exact hq _ (up1 (by omega) (by omega)) (CM_wf hC (by omega) hw (Or.inr (Or.inl ⟨rfl, rfl⟩)))
    · refine x_ldc (n := 28) dX11_ahead_26 rfl kiX11_54 ?_
      refine r_iret dX11_ahead_28 rfl ?_
      rw [if_neg (by rintro ⟨_, h⟩; rw [c_23] at h; cases h)] at hq; exact hq I offM_refl hC
  · rw [if_neg (fun h => hx h.1)] at hq
    refine x_ald0 (n := 1) dX11_ahead_0 rfl ?_
    refine x_getR (n := 4) flX11_10 rfl dX11_ahead_1 rfl (lK_L hS) (lP_M hS) ?_
    refine x_getR (n := 7) flX11_55 rfl dX11_ahead_4 rfl (mK_M hM) (mP_Ws hM) ?_
    refine x_ild1 (n := 8) dX11_ahead_7 rfl ?_
    refine x_cV1 (n := 11) (d' := 1) zcX10_numbered mlX11_142 dX11_ahead_8 rfl (mK_Ws hM) (Nat.le_of_ble_eq_true rfl) (Nat.le_of_ble_eq_true rfl) ?_
    refine c_X10_numberedN hM hC.2.1 hB (Bool.eq_false_iff.mpr hx) ?_
    refine x_some ?_
    refine x_nst3 (n := 12) dX11_ahead_11 rfl (by decide) rfl ?_
    refine x_nld3 (n := 13) dX11_ahead_12 rfl ?_
    refine x_ifnullN (n := 26) dX11_ahead_13 (by decide) ?_
    refine x_ldc (n := 28) dX11_ahead_26 rfl kiX11_54 ?_
    refine r_iret dX11_ahead_28 rfl ?_
    exact hq I offM_refl hC
theorem tL_days (hS : ShL Z) (hC : CM Z I 1 g) (hB : InvB g) {x y : Int32} (hq : ∀ I', offM 1 I I' → CM Z I' 1 (f_days g x y).2 → Q (some (.int (f_days g x y).1)) Z I') : zM l G mX11_days 2 0 0 [.ref 0, .int x, .int y] Z I Q := by
  refine x_entry [some (.ref 0), some (.int x), some (.int y), none, none] 2 rfl rfl (Nat.le_of_ble_eq_true rfl) ?_
  have hM := lM1 hS
  have h24 := (iv1 hB).2
  unfold f_days at hq
  by_cases hx : zin x 0 ((vN g 1 : Int) - 1) = true
  · obtain ⟨w, hw, rfl⟩ := z_chain hx
    rw [ix_nI (by omega)] at hq
    refine x_ald0 (n := 1) dX11_days_0 rfl ?_
    refine x_getR (n := 4) flX11_10 rfl dX11_days_1 rfl (lK_L hS) (lP_M hS) ?_
    refine x_getR (n := 7) flX11_55 rfl dX11_days_4 rfl (mK_M hM) (mP_Ws hM) ?_
    refine x_ild1 (n := 8) dX11_days_7 rfl ?_
    refine x_cV1 (n := 11) (d' := 1) zcX10_numbered mlX11_142 dX11_days_8 rfl (mK_Ws hM) (Nat.le_of_ble_eq_true rfl) (Nat.le_of_ble_eq_true rfl) ?_
    refine c_X10_numbered hM hC.2.1 hB hw ?_
    refine x_some ?_
    refine x_ast3 (n := 12) dX11_days_11 rfl (by decide) rfl ?_
    refine x_ald3 (n := 13) dX11_days_12 rfl ?_
    refine x_ifnull (n := 16) dX11_days_13 rfl ?_
    refine x_ild2 (n := 17) dX11_days_16 rfl ?_
    refine x_ic1 (n := 18) dX11_days_17 rfl ?_
    refine x_bipush (n := 20) (v := nI 99) dX11_days_18 rfl (by decide) ?_
    refine x_cS3 (n := 23) (d' := 0) zcX11_inside mlX11_50 dX11_days_20 rfl (Nat.le_of_ble_eq_true rfl) (Nat.le_of_ble_eq_true rfl) ?_
    refine c_X11_inside (zin y 1 99) (by unfold zin; rfl) ?_
    refine x_some ?_
    refine x_zif_ne (n := 26) (tgt := 29) dX11_days_23 rfl (by decide) (fun c_23 => ?_) (fun c_23 => ?_)
    · rw [if_pos ⟨hx, c_23⟩] at hq
      refine x_ald3 (n := 30) dX11_days_29 rfl ?_
      refine x_getI (n := 33) flX11_181 rfl dX11_days_30 rfl (mK_W hM (by omega)) ?_
      rw [cW5 hC.2.1 hw]
      refine x_ist4 (n := 35) dX11_days_33 rfl (by decide) rfl ?_
      refine x_ald3 (n := 36) dX11_days_35 rfl ?_
      refine x_ild2 (n := 37) dX11_days_36 rfl ?_
      refine x_putI (n := 40) flX11_181 rfl (Or.inl rfl) rfl rfl dX11_days_37 rfl (mK_W hM (by omega)) ?_
      refine x_ild4 (n := 42) dX11_days_40 rfl ?_
      refine r_iret dX11_days_42 rfl ?_
      exact hq _ (up1 (by omega) (by omega)) (CM_wf hC (by omega) hw (Or.inr (Or.inr (Or.inl ⟨rfl, rfl⟩))))
    · refine x_ldc (n := 28) dX11_days_26 rfl kiX11_54 ?_
      refine r_iret dX11_days_28 rfl ?_
      rw [if_neg (by rintro ⟨_, h⟩; rw [c_23] at h; cases h)] at hq; exact hq I offM_refl hC
  · rw [if_neg (fun h => hx h.1)] at hq
    refine x_ald0 (n := 1) dX11_days_0 rfl ?_
    refine x_getR (n := 4) flX11_10 rfl dX11_days_1 rfl (lK_L hS) (lP_M hS) ?_
    refine x_getR (n := 7) flX11_55 rfl dX11_days_4 rfl (mK_M hM) (mP_Ws hM) ?_
    refine x_ild1 (n := 8) dX11_days_7 rfl ?_
    refine x_cV1 (n := 11) (d' := 1) zcX10_numbered mlX11_142 dX11_days_8 rfl (mK_Ws hM) (Nat.le_of_ble_eq_true rfl) (Nat.le_of_ble_eq_true rfl) ?_
    refine c_X10_numberedN hM hC.2.1 hB (Bool.eq_false_iff.mpr hx) ?_
    refine x_some ?_
    refine x_nst3 (n := 12) dX11_days_11 rfl (by decide) rfl ?_
    refine x_nld3 (n := 13) dX11_days_12 rfl ?_
    refine x_ifnullN (n := 26) dX11_days_13 (by decide) ?_
    refine x_ldc (n := 28) dX11_days_26 rfl kiX11_54 ?_
    refine r_iret dX11_days_28 rfl ?_
    exact hq I offM_refl hC
theorem tL_gang (hS : ShL Z) (hC : CM Z I 1 g) (hB : InvB g) {v : Int32} (hq : ∀ I', offM 1 I I' → CM Z I' 1 (f_gang g v).2 → Q (some (.int (f_gang g v).1)) Z I') : zM l G mX11_gang 1 0 0 [.ref 0, .int v] Z I Q := by
  refine x_entry [some (.ref 0), some (.int v)] 0 rfl rfl (Nat.le_of_ble_eq_true rfl) ?_
  have hM := lM1 hS
  unfold f_gang at hq
  refine x_ild1 (n := 1) dX11_gang_0 rfl ?_
  refine x_ic1 (n := 2) dX11_gang_1 rfl ?_
  refine x_bipush (n := 4) (v := nI 99) dX11_gang_2 rfl (by decide) ?_
  refine x_cS3 (n := 7) (d' := 0) zcX11_inside mlX11_50 dX11_gang_4 rfl (Nat.le_of_ble_eq_true rfl) (Nat.le_of_ble_eq_true rfl) ?_
  refine c_X11_inside (zin v 1 99) (by unfold zin; rfl) ?_
  refine x_some ?_
  refine x_zif_eq (n := 10) (tgt := 24) dX11_gang_7 rfl (by decide) (fun c_7 => ?_) (fun c_7 => ?_)
  · refine x_ldc (n := 26) dX11_gang_24 rfl kiX11_54 ?_
    refine r_iret dX11_gang_26 rfl ?_
    first | (rw [if_pos c_7] at hq; by_cases h8 : vN g 2 = 8; (rw [if_pos h8] at hq h2 ⊢; exact hq I1 h1 h2); (rw [if_neg h8] at hq h2 ⊢; exact hq I1 h1 h2)) | (rw [if_neg (by rw [c_7]; decide)] at hq; exact hq I offM_refl hC)
  · refine x_ald0 (n := 11) dX11_gang_10 rfl ?_
    refine x_getR (n := 14) flX11_10 rfl dX11_gang_11 rfl (lK_L hS) (lP_M hS) ?_
    refine x_getR (n := 17) flX11_55 rfl dX11_gang_14 rfl (mK_M hM) (mP_Ws hM) ?_
    refine x_ild1 (n := 18) dX11_gang_17 rfl ?_
    refine x_cV1 (n := 21) (d' := 0) zcX10_addGang mlX11_184 dX11_gang_18 rfl (mK_Ws hM) (Nat.le_of_ble_eq_true rfl) (Nat.le_of_ble_eq_true rfl) ?_
    refine c_X10_addGang hM hC hB (by omega) (fun I1 h1 h2 => ?_)
    refine x_some ?_
    refine x_goto (n := 26) dX11_gang_21 (by decide) ?_
    refine r_iret dX11_gang_26 rfl ?_
    first | (rw [if_pos c_7] at hq; by_cases h8 : vN g 2 = 8; (rw [if_pos h8] at hq h2 ⊢; exact hq I1 h1 h2); (rw [if_neg h8] at hq h2 ⊢; exact hq I1 h1 h2)) | (rw [if_neg (by rw [c_7]; decide)] at hq; exact hq I offM_refl hC)
theorem tL_wet (hS : ShL Z) (hC : CM Z I 1 g) (hB : InvB g) {x v : Int32} (hq : ∀ I', offM 1 I I' → CM Z I' 1 (f_wet g x v).2 → Q (some (.int (f_wet g x v).1)) Z I') : zM l G mX11_wet 1 0 0 [.ref 0, .int x, .int v] Z I Q := by
  refine x_entry [some (.ref 0), some (.int x), some (.int v)] 0 rfl rfl (Nat.le_of_ble_eq_true rfl) ?_
  have hM := lM1 hS
  unfold f_wet at hq
  refine x_ild1 (n := 1) dX11_wet_0 rfl ?_
  refine x_ic0 (n := 2) dX11_wet_1 rfl ?_
  refine x_sipush (n := 5) (v := nI 1999) dX11_wet_2 rfl (by decide) ?_
  refine x_cS3 (n := 8) (d' := 0) zcX11_inside mlX11_50 dX11_wet_5 rfl (Nat.le_of_ble_eq_true rfl) (Nat.le_of_ble_eq_true rfl) ?_
  refine c_X11_inside (zin x 0 1999) (by unfold zin; rfl) ?_
  refine x_some ?_
  refine x_zif_eq (n := 11) (tgt := 21) dX11_wet_8 rfl (by decide) (fun c_8 => ?_) (fun c_8 => ?_)
  · refine x_ldc (n := 23) dX11_wet_21 rfl kiX11_54 ?_
    refine r_iret dX11_wet_23 rfl ?_
    first | (have h0 : zin v 0 9 = false := c_18; rw [if_neg (by rintro ⟨_, h⟩; rw [h0] at h; cases h)] at hq; exact hq I offM_refl hC) | (have h0 : zin x 0 1999 = false := c_8; rw [if_neg (by rintro ⟨h, _⟩; rw [h0] at h; cases h)] at hq; exact hq I offM_refl hC)
  · refine x_ild2 (n := 12) dX11_wet_11 rfl ?_
    refine x_ic0 (n := 13) dX11_wet_12 rfl ?_
    refine x_bipush (n := 15) (v := nI 9) dX11_wet_13 rfl (by decide) ?_
    refine x_cS3 (n := 18) (d' := 0) zcX11_inside mlX11_50 dX11_wet_15 rfl (Nat.le_of_ble_eq_true rfl) (Nat.le_of_ble_eq_true rfl) ?_
    refine c_X11_inside (zin v 0 9) (by unfold zin; rfl) ?_
    refine x_some ?_
    refine x_zif_ne (n := 21) (tgt := 24) dX11_wet_18 rfl (by decide) (fun c_18 => ?_) (fun c_18 => ?_)
    · rw [if_pos ⟨c_8, c_18⟩] at hq
      obtain ⟨d, hd, hd2, rfl⟩ := z_num 2000 c_8 (by omega)
      rw [ix_nI (by omega)] at hq
      refine x_ald0 (n := 25) dX11_wet_24 rfl ?_
      refine x_getR (n := 28) flX11_10 rfl dX11_wet_25 rfl (lK_L hS) (lP_M hS) ?_
      refine x_getR (n := 31) flX11_193 rfl dX11_wet_28 rfl (mK_M hM) (mP_wetness hM) ?_
      refine x_ild1 (n := 32) dX11_wet_31 rfl ?_
      refine x_ild2 (n := 33) dX11_wet_32 rfl ?_
      refine x_cS3 (n := 36) (d' := 0) zcX11_exchange mlX11_82 dX11_wet_33 rfl (Nat.le_of_ble_eq_true rfl) (Nat.le_of_ble_eq_true rfl) ?_
      refine c_X11_exchange (mA_wetness hM) (by decide) (by omega) ?_
      rw [hC.2.2.2.2.2.2.2.2 d (by omega)]
      refine x_some ?_
      refine r_iret dX11_wet_36 rfl ?_
      exact hq _ (up1 (by omega) (by omega)) (CM_wet hC (by omega) (by omega))
    · refine x_ldc (n := 23) dX11_wet_21 rfl kiX11_54 ?_
      refine r_iret dX11_wet_23 rfl ?_
      first | (have h0 : zin v 0 9 = false := c_18; rw [if_neg (by rintro ⟨_, h⟩; rw [h0] at h; cases h)] at hq; exact hq I offM_refl hC) | (have h0 : zin x 0 1999 = false := c_8; rw [if_neg (by rintro ⟨h, _⟩; rw [h0] at h; cases h)] at hq; exact hq I offM_refl hC)
theorem l_X11_run (hS : ShL Z) (hB : InvB g) (hT : InvT g) {n : Nat} (hn : vN g 8 + n ≤ 1999) (hq : ∀ I', offM 1 I I' → CM Z I' 1 (gDays g n) → Q (some (.int (nI (vN g 8 + n)))) Z I') : ∀ m k I1, offM 1 I I1 → CM Z I1 1 (gDays g k) → k ≤ n → n - k < m → zX l G mX11_run 6 0 0 33 [some (.ref 0), some (.int (nI n)), some (.int (nI k))] [] Z I1 Q := by
  have hM := lM1 hS
  intro m
  induction m with
  | zero => intro k I1 _ _ _ h; exact absurd h (by omega)
  | succ m ih =>
    intro k I1 hO hC hk hmm
    obtain ⟨b1, t1, d1⟩ := gDays_ok hB hT k (by omega)
    have e1 := vD8 hC.2.2.2.2.2.2.2 b1
    rw [d1] at e1
    refine x_ild2 (n := 34) dX11_run_33 rfl ?_
    refine x_ild1 (n := 35) dX11_run_34 rfl ?_
    refine x_icmpN_ge (n := 38) (tgt := 51) dX11_run_35 rfl (by decide) (by omega) (by omega) (fun c_35 => ?_) (fun c_35 => ?_)
    · refine x_ald0 (n := 52) dX11_run_51 rfl ?_
      refine x_getR (n := 55) flX11_10 rfl dX11_run_52 rfl (lK_L hS) (lP_M hS) ?_
      refine x_getI (n := 58) flX11_152 rfl dX11_run_55 rfl (mK_M hM) ?_
      refine r_iret dX11_run_58 rfl ?_
      rw [e1, show k = n by omega]; exact hq I1 hO (by rw [← show k = n by omega]; exact hC)
    · refine x_ald0 (n := 39) dX11_run_38 rfl ?_
      refine x_getR (n := 42) flX11_10 rfl dX11_run_39 rfl (lK_L hS) (lP_M hS) ?_
      refine x_cV0 (n := 45) (d' := 5) zcX2_passDay mlX11_197 dX11_run_42 rfl (mK_M hM) (Nat.le_of_ble_eq_true rfl) (Nat.le_of_ble_eq_true rfl) ?_
      refine c_X2_passDay hM (by omega) hC b1 t1 (by omega) (fun I2 hO2 hC2 => ?_)
      refine x_none ?_
      refine x_iincN2 (n := 48) (k := 1) dX11_run_45 rfl (by decide) rfl ?_
      refine x_goto (n := 33) dX11_run_48 (by decide) ?_
      exact ih (k + 1) I2 (offM_trans hO hO2) hC2 (by omega) (by omega)
theorem tL_run (hS : ShL Z) (hC : CM Z I 1 g) (hB : InvB g) (hT : InvT g) {x : Int32} (hq : ∀ I', offM 1 I I' → CM Z I' 1 (f_run g x).2 → Q (some (.int (f_run g x).1)) Z I') : zM l G mX11_run 6 0 0 [.ref 0, .int x] Z I Q := by
  refine x_entry [some (.ref 0), some (.int x), none] 1 rfl rfl (Nat.le_of_ble_eq_true rfl) ?_
  have hM := lM1 hS
  have h8 := (iv8 hB).2
  unfold f_run at hq
  refine x_ild1 (n := 1) dX11_run_0 rfl ?_
  refine x_ic1 (n := 2) dX11_run_1 rfl ?_
  refine x_bipush (n := 4) (v := nI 60) dX11_run_2 rfl (by decide) ?_
  refine x_cS3 (n := 7) (d' := 0) zcX11_inside mlX11_50 dX11_run_4 rfl (Nat.le_of_ble_eq_true rfl) (Nat.le_of_ble_eq_true rfl) ?_
  refine c_X11_inside (zin x 1 60) (by unfold zin; rfl) ?_
  refine x_some ?_
  refine x_zif_ne (n := 10) (tgt := 13) dX11_run_7 rfl (by decide) (fun c_7 => ?_) (fun c_7 => ?_)
  · rw [if_pos c_7] at hq
    obtain ⟨n, hn, hn2, rfl⟩ := z_num 61 (x := x) (hi := 60) (by unfold zin at *; simp only [decide_eq_true_eq] at *; omega) (by omega)
    rw [ix_nI (by omega)] at hq
    refine x_ald0 (n := 14) dX11_run_13 rfl ?_
    refine x_getR (n := 17) flX11_10 rfl dX11_run_14 rfl (lK_L hS) (lP_M hS) ?_
    refine x_getI (n := 20) flX11_152 rfl dX11_run_17 rfl (mK_M hM) ?_
    rw [vD8 hC.2.2.2.2.2.2.2 hB]
    refine x_ild1 (n := 21) dX11_run_20 rfl ?_
    refine x_iaddN (n := 22) dX11_run_21 rfl ?_
    refine x_sipush (n := 25) (v := nI 1999) dX11_run_22 rfl (by decide) ?_
    refine x_icmpN_le (n := 28) (tgt := 31) dX11_run_25 rfl (by decide) (by omega) (by omega) (fun c_25 => ?_) (fun c_25 => ?_)
    · refine x_ic0 (n := 32) dX11_run_31 rfl ?_
      refine x_ist2 (n := 33) dX11_run_32 rfl (by decide) rfl ?_
      rw [if_neg (by omega)] at hq
      exact l_X11_run hS hB hT (by omega) hq (n + 1) 0 I offM_refl hC (by omega) (by omega)
    · refine x_ldc (n := 30) dX11_run_28 rfl kiX11_196 ?_
      refine r_iret dX11_run_30 rfl ?_
      rw [if_pos (by omega)] at hq; exact hq I offM_refl hC
  · refine x_ldc (n := 12) dX11_run_10 rfl kiX11_54 ?_
    refine r_iret dX11_run_12 rfl ?_
    rw [if_neg (by rw [c_7]; decide)] at hq; exact hq I offM_refl hC
end
