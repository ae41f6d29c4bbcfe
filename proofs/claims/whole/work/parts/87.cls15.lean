section
variable {l : Launch} {G : zG} {Z : zS} {I I' : zI} {g g' : Nat → Int32} {mk b : Nat} {Q : Option Value → zS → zI → Prop}
theorem tL_of (hS : ShL Z) (hC : CM Z I 1 g) (hB : InvB g) {x y : Int32} (hq : Q (some (.int (f_of g x y))) Z I) : zM l G mX11_of 2 0 0 [.ref 0, .int x, .int y] Z I Q := by
  refine x_entry [some (.ref 0), some (.int x), some (.int y), none] 1 rfl rfl (Nat.le_of_ble_eq_true rfl) ?_
  have hM := lM1 hS
  have h14 := (iv3 hB).2
  unfold f_of at hq
  by_cases hx : zin x 0 ((vN g 3 : Int) - 1) = true
  · obtain ⟨t, ht, rfl⟩ := z_chain hx
    rw [ix_nI (by omega)] at hq
    obtain ⟨p, hp, hxx⟩ := hC.2.2.2.1.2.2 t ht
    refine x_ald0 (n := 1) dX11_of_0 rfl ?_
    refine x_getR (n := 4) flX11_10 rfl dX11_of_1 rfl (lK_L hS) (lP_M hS) ?_
    refine x_getR (n := 7) flX11_216 rfl dX11_of_4 rfl (mK_M hM) (mP_Ts hM) ?_
    refine x_ild1 (n := 8) dX11_of_7 rfl ?_
    refine x_cV1 (n := 11) (d' := 1) zcX8_numbered mlX11_226 dX11_of_8 rfl (mK_Ts hM) (Nat.le_of_ble_eq_true rfl) (Nat.le_of_ble_eq_true rfl) ?_
    refine c_X8_numbered hM hC.2.2.2.1 hB ht hp ?_
    refine x_some ?_
    refine x_ast3 (n := 12) dX11_of_11 rfl (by decide) rfl ?_
    refine x_ald3 (n := 13) dX11_of_12 rfl ?_
    refine x_ifnonnull (n := 19) dX11_of_13 (by decide) ?_
    refine x_ild2 (n := 20) dX11_of_19 rfl ?_
    rcases zsw0_2 (y) with hsw | hsw | hsw | hsw
    · refine x_tswO (n := 63) dX11_of_20 hsw (by decide) ?_
      refine x_ldc (n := 65) dX11_of_63 rfl kiX11_54 ?_
      refine r_iret dX11_of_65 rfl ?_
      rw [if_neg (by rintro ⟨_, h⟩; have := zin_t h; omega)] at hq; exact hq
    · refine x_top hsw ?_
      refine x_tswI (n := 48) (off := 28) dX11_of_20 (by decide) (by decide) (by decide +kernel) (by decide) ?_
      refine x_ald3 (n := 49) dX11_of_48 rfl ?_
      refine x_getI (n := 52) flX11_228 rfl dX11_of_49 rfl hxx.2.1 ?_
      refine r_iret dX11_of_52 rfl ?_
      rw [hxx.2.2.1]; subst hsw; rw [if_pos ⟨hx, by decide⟩] at hq; exact hq
    · refine x_top hsw ?_
      refine x_tswI (n := 53) (off := 33) dX11_of_20 (by decide) (by decide) (by decide +kernel) (by decide) ?_
      refine x_ald3 (n := 54) dX11_of_53 rfl ?_
      refine x_getI (n := 57) flX11_233 rfl dX11_of_54 rfl hxx.2.1 ?_
      refine r_iret dX11_of_57 rfl ?_
      rw [hxx.2.2.2.1]; subst hsw; rw [if_pos ⟨hx, by decide⟩] at hq; exact hq
    · refine x_top hsw ?_
      refine x_tswI (n := 58) (off := 38) dX11_of_20 (by decide) (by decide) (by decide +kernel) (by decide) ?_
      refine x_ald3 (n := 59) dX11_of_58 rfl ?_
      refine x_getI (n := 62) flX11_234 rfl dX11_of_59 rfl hxx.2.1 ?_
      refine r_iret dX11_of_62 rfl ?_
      rw [hxx.2.2.2.2.1]; subst hsw; rw [if_pos ⟨hx, by decide⟩] at hq; exact hq
  · rw [if_neg (fun h => hx h.1)] at hq
    refine x_ald0 (n := 1) dX11_of_0 rfl ?_
    refine x_getR (n := 4) flX11_10 rfl dX11_of_1 rfl (lK_L hS) (lP_M hS) ?_
    refine x_getR (n := 7) flX11_216 rfl dX11_of_4 rfl (mK_M hM) (mP_Ts hM) ?_
    refine x_ild1 (n := 8) dX11_of_7 rfl ?_
    refine x_cV1 (n := 11) (d' := 1) zcX8_numbered mlX11_226 dX11_of_8 rfl (mK_Ts hM) (Nat.le_of_ble_eq_true rfl) (Nat.le_of_ble_eq_true rfl) ?_
    refine c_X8_numberedN hM hC.2.2.2.1 hB (Bool.eq_false_iff.mpr hx) ?_
    refine x_some ?_
    refine x_nst3 (n := 12) dX11_of_11 rfl (by decide) rfl ?_
    refine x_nld3 (n := 13) dX11_of_12 rfl ?_
    refine x_ifnonnullN (n := 16) dX11_of_13 rfl ?_
    refine x_ldc (n := 18) dX11_of_16 rfl kiX11_54 ?_
    refine r_iret dX11_of_18 rfl ?_
    exact hq
theorem tL_why (hS : ShL Z) (hC : CM Z I 1 g) (hB : InvB g) (hT : InvT g) {x : Int32} (hq : Q (some (.int (f_why g x))) Z I) : zM l G mX11_why 2 0 0 [.ref 0, .int x] Z I Q := by
  refine x_entry [some (.ref 0), some (.int x)] 0 rfl rfl (Nat.le_of_ble_eq_true rfl) ?_
  have hM := lM1 hS
  unfold f_why at hq
  refine x_ild1 (n := 1) dX11_why_0 rfl ?_
  refine x_ic0 (n := 2) dX11_why_1 rfl ?_
  refine x_ic3 (n := 3) dX11_why_2 rfl ?_
  refine x_cS3 (n := 6) (d' := 0) zcX11_inside mlX11_50 dX11_why_3 rfl (Nat.le_of_ble_eq_true rfl) (Nat.le_of_ble_eq_true rfl) ?_
  refine c_X11_inside (zin x 0 3) (by unfold zin; rfl) ?_
  refine x_some ?_
  refine x_zif_eq (n := 9) (tgt := 30) dX11_why_6 rfl (by decide) (fun c_6 => ?_) (fun c_6 => ?_)
  · refine x_ldc (n := 32) dX11_why_30 rfl kiX11_54 ?_
    refine r_iret dX11_why_32 rfl ?_
    first | (rw [if_pos c_6] at hq; exact hq) | (rw [if_neg (by rw [c_6]; decide)] at hq; exact hq)
  · refine x_ald0 (n := 10) dX11_why_9 rfl ?_
    refine x_getR (n := 13) flX11_10 rfl dX11_why_10 rfl (lK_L hS) (lP_M hS) ?_
    refine x_getR (n := 16) flX11_216 rfl dX11_why_13 rfl (mK_M hM) (mP_Ts hM) ?_
    refine x_ild1 (n := 17) dX11_why_16 rfl ?_
    refine x_ald0 (n := 18) dX11_why_17 rfl ?_
    refine x_getR (n := 21) flX11_10 rfl dX11_why_18 rfl (lK_L hS) (lP_M hS) ?_
    refine x_getI (n := 24) flX11_152 rfl dX11_why_21 rfl (mK_M hM) ?_
    rw [hC.2.2.2.2.2.2.2.1]
    refine x_cV2 (n := 27) (d' := 1) zcX8_counting mlX11_237 dX11_why_24 rfl (mK_Ts hM) (Nat.le_of_ble_eq_true rfl) (Nat.le_of_ble_eq_true rfl) ?_
    refine c_X8_counting hM hC.2.2.2.1 hB hT ?_
    refine x_some ?_
    refine x_goto (n := 32) dX11_why_27 (by decide) ?_
    refine r_iret dX11_why_32 rfl ?_
    first | (rw [if_pos c_6] at hq; exact hq) | (rw [if_neg (by rw [c_6]; decide)] at hq; exact hq)
theorem tL_rules (hS : ShL Z) (hC : CM Z I 1 g) (hB : InvB g) (hT : InvT g) {x u v w : Int32} (hq : ∀ I', offM 1 I I' → CM Z I' 1 g → Q (some (.int (f_rules g x u v w))) Z I') : zM l G mX11_rules 3 0 0 [.ref 0, .int x, .int u, .int v, .int w] Z I Q := by
  refine x_entry [some (.ref 0), some (.int x), some (.int u), some (.int v), some (.int w)] 0 rfl rfl (Nat.le_of_ble_eq_true rfl) ?_
  have hM := lM1 hS
  unfold f_rules at hq
  refine x_ild1 (n := 1) dX11_rules_0 rfl ?_
  refine x_ic0 (n := 2) dX11_rules_1 rfl ?_
  refine x_ic3 (n := 3) dX11_rules_2 rfl ?_
  refine x_cS3 (n := 6) (d' := 0) zcX11_inside mlX11_50 dX11_rules_3 rfl (Nat.le_of_ble_eq_true rfl) (Nat.le_of_ble_eq_true rfl) ?_
  refine c_X11_inside (zin x 0 3) (by unfold zin; rfl) ?_
  refine x_some ?_
  refine x_zif_eq (n := 9) (tgt := 34) dX11_rules_6 rfl (by decide) (fun c_6 => ?_) (fun c_6 => ?_)
  · refine x_ldc (n := 36) dX11_rules_34 rfl kiX11_54 ?_
    refine r_iret dX11_rules_36 rfl ?_
    first | (have h0 : zin x 0 3 = false := c_6; rw [if_neg (by rw [h0]; decide)] at hq; exact hq I offM_refl hC) | exact hq I1 (off65 h1) (CM65 hC h1 (by omega))
  · obtain ⟨k, hk, hk2, rfl⟩ := z_num 4 c_6 (by omega)
    rw [if_pos c_6, ix_nI (by omega)] at hq
    refine x_ald0 (n := 10) dX11_rules_9 rfl ?_
    refine x_getR (n := 13) flX11_10 rfl dX11_rules_10 rfl (lK_L hS) (lP_M hS) ?_
    refine x_getR (n := 16) flX11_216 rfl dX11_rules_13 rfl (mK_M hM) (mP_Ts hM) ?_
    refine x_ild1 (n := 17) dX11_rules_16 rfl ?_
    refine x_ald0 (n := 18) dX11_rules_17 rfl ?_
    refine x_getR (n := 21) flX11_10 rfl dX11_rules_18 rfl (lK_L hS) (lP_M hS) ?_
    refine x_getI (n := 24) flX11_152 rfl dX11_rules_21 rfl (mK_M hM) ?_
    refine x_ild2 (n := 25) dX11_rules_24 rfl ?_
    refine x_ild3 (n := 26) dX11_rules_25 rfl ?_
    refine x_ild4 (n := 28) dX11_rules_26 rfl ?_
    rw [hC.2.2.2.2.2.2.2.1]
    refine x_cV5 (n := 31) (d' := 2) zcX8_ruling mlX11_240 dX11_rules_28 rfl (mK_Ts hM) (Nat.le_of_ble_eq_true rfl) (Nat.le_of_ble_eq_true rfl) ?_
    refine c_X8_ruling hM (by omega) hC.2.2.2.1 hB hT (by omega) (fun I1 h1 => ?_)
    refine x_some ?_
    refine x_goto (n := 36) dX11_rules_31 (by decide) ?_
    refine r_iret dX11_rules_36 rfl ?_
    first | (have h0 : zin x 0 3 = false := c_6; rw [if_neg (by rw [h0]; decide)] at hq; exact hq I offM_refl hC) | exact hq I1 (off65 h1) (CM65 hC h1 (by omega))
theorem tL_price (hS : ShL Z) (hC : CM Z I 1 g) (hB : InvB g) (hT : InvT g) {x : Int32} (hq : ∀ I', offM 1 I I' → CM Z I' 1 g → Q (some (.int (f_price g x))) Z I') : zM l G mX11_price 4 0 0 [.ref 0, .int x] Z I Q := by
  refine x_entry [some (.ref 0), some (.int x), none] 1 rfl rfl (Nat.le_of_ble_eq_true rfl) ?_
  have hM := lM1 hS
  have h24 := (iv1 hB).2
  unfold f_price at hq
  by_cases hx : zin x 0 ((vN g 1 : Int) - 1) = true
  · obtain ⟨w, hw, rfl⟩ := z_chain hx
    rw [if_pos hx, ix_nI (by omega)] at hq
    refine x_ald0 (n := 1) dX11_price_0 rfl ?_
    refine x_getR (n := 4) flX11_10 rfl dX11_price_1 rfl (lK_L hS) (lP_M hS) ?_
    refine x_getR (n := 7) flX11_55 rfl dX11_price_4 rfl (mK_M hM) (mP_Ws hM) ?_
    refine x_ild1 (n := 8) dX11_price_7 rfl ?_
    refine x_cV1 (n := 11) (d' := 1) zcX10_numbered mlX11_142 dX11_price_8 rfl (mK_Ws hM) (Nat.le_of_ble_eq_true rfl) (Nat.le_of_ble_eq_true rfl) ?_
    refine c_X10_numbered hM hC.2.1 hB hw ?_
    refine x_some ?_
    refine x_ast2 (n := 12) dX11_price_11 rfl (by decide) rfl ?_
    refine x_ald2 (n := 13) dX11_price_12 rfl ?_
    refine x_ifnonnull (n := 21) dX11_price_13 (by decide) ?_
    refine x_ald0 (n := 22) dX11_price_21 rfl ?_
    refine x_getR (n := 25) flX11_10 rfl dX11_price_22 rfl (lK_L hS) (lP_M hS) ?_
    refine x_ald2 (n := 26) dX11_price_25 rfl ?_
    refine x_cV1 (n := 29) (d' := 3) zcX2_priceOf mlX11_244 dX11_price_26 rfl (mK_M hM) (Nat.le_of_ble_eq_true rfl) (Nat.le_of_ble_eq_true rfl) ?_
    refine c_X2_priceOf hM hC hB hT (by omega) hw (fun I1 h1 => ?_)
    refine x_some ?_
    refine r_iret dX11_price_29 rfl ?_
    exact hq I1 (off65 h1) (CM65 hC h1 (by omega))
  · rw [if_neg hx] at hq
    refine x_ald0 (n := 1) dX11_price_0 rfl ?_
    refine x_getR (n := 4) flX11_10 rfl dX11_price_1 rfl (lK_L hS) (lP_M hS) ?_
    refine x_getR (n := 7) flX11_55 rfl dX11_price_4 rfl (mK_M hM) (mP_Ws hM) ?_
    refine x_ild1 (n := 8) dX11_price_7 rfl ?_
    refine x_cV1 (n := 11) (d' := 1) zcX10_numbered mlX11_142 dX11_price_8 rfl (mK_Ws hM) (Nat.le_of_ble_eq_true rfl) (Nat.le_of_ble_eq_true rfl) ?_
    refine c_X10_numberedN hM hC.2.1 hB (Bool.eq_false_iff.mpr hx) ?_
    refine x_some ?_
    refine x_nst2 (n := 12) dX11_price_11 rfl (by decide) rfl ?_
    refine x_nld2 (n := 13) dX11_price_12 rfl ?_
    refine x_ifnonnullN (n := 16) dX11_price_13 rfl ?_
    refine x_ldc (n := 18) dX11_price_16 rfl kiX11_54 ?_
    refine x_goto (n := 29) dX11_price_18 (by decide) ?_
    refine r_iret dX11_price_29 rfl ?_
    exact hq I offM_refl hC
theorem tL_measure (hS : ShL Z) (hC : CM Z I 1 g) (hB : InvB g) {x y v : Int32} (hq : ∀ I', offM 1 I I' → CM Z I' 1 (f_measure g x y v).2 → Q (some (.int (f_measure g x y v).1)) Z I') : zM l G mX11_measure 2 0 0 [.ref 0, .int x, .int y, .int v] Z I Q := by
  refine x_entry [some (.ref 0), some (.int x), some (.int y), some (.int v), none] 1 rfl rfl (Nat.le_of_ble_eq_true rfl) ?_
  have hM := lM1 hS
  have h24 := (iv1 hB).2
  unfold f_measure at hq
  by_cases hx : zin x 0 ((vN g 1 : Int) - 1) = true
  · obtain ⟨w, hw, rfl⟩ := z_chain hx
    rw [ix_nI (by omega)] at hq
    refine x_ald0 (n := 1) dX11_measure_0 rfl ?_
    refine x_getR (n := 4) flX11_10 rfl dX11_measure_1 rfl (lK_L hS) (lP_M hS) ?_
    refine x_getR (n := 7) flX11_55 rfl dX11_measure_4 rfl (mK_M hM) (mP_Ws hM) ?_
    refine x_ild1 (n := 8) dX11_measure_7 rfl ?_
    refine x_cV1 (n := 11) (d' := 1) zcX10_numbered mlX11_142 dX11_measure_8 rfl (mK_Ws hM) (Nat.le_of_ble_eq_true rfl) (Nat.le_of_ble_eq_true rfl) ?_
    refine c_X10_numbered hM hC.2.1 hB hw ?_
    refine x_some ?_
    refine x_ast4 (n := 13) dX11_measure_11 rfl (by decide) rfl ?_
    refine x_ald4 (n := 15) dX11_measure_13 rfl ?_
    refine x_ifnull (n := 18) dX11_measure_15 rfl ?_
    refine x_ild2 (n := 19) dX11_measure_18 rfl ?_
    refine x_ic0 (n := 20) dX11_measure_19 rfl ?_
    refine x_ic1 (n := 21) dX11_measure_20 rfl ?_
    refine x_cS3 (n := 24) (d' := 0) zcX11_inside mlX11_50 dX11_measure_21 rfl (Nat.le_of_ble_eq_true rfl) (Nat.le_of_ble_eq_true rfl) ?_
    refine c_X11_inside (zin y 0 1) (by unfold zin; rfl) ?_
    refine x_some ?_
    refine x_zif_eq (n := 27) (tgt := 38) dX11_measure_24 rfl (by decide) (fun c_24 => ?_) (fun c_24 => ?_)
    · refine x_ldc (n := 40) dX11_measure_38 rfl kiX11_54 ?_
      refine r_iret dX11_measure_40 rfl ?_
      first | (have h0 : zin v 0 9999 = false := c_35; rw [if_neg (by rintro ⟨_, _, h⟩; rw [h0] at h; cases h)] at hq; exact hq I offM_refl hC) | (have h0 : zin y 0 1 = false := c_24; rw [if_neg (by rintro ⟨_, h, _⟩; rw [h0] at h; cases h)] at hq; exact hq I offM_refl hC)
    · refine x_ild3 (n := 28) dX11_measure_27 rfl ?_
      refine x_ic0 (n := 29) dX11_measure_28 rfl ?_
      refine x_sipush (n := 32) (v := nI 9999) dX11_measure_29 rfl (by decide) ?_
      refine x_cS3 (n := 35) (d' := 0) zcX11_inside mlX11_50 dX11_measure_32 rfl (Nat.le_of_ble_eq_true rfl) (Nat.le_of_ble_eq_true rfl) ?_
      refine c_X11_inside (zin v 0 9999) (by unfold zin; rfl) ?_
      refine x_some ?_
      refine x_zif_ne (n := 38) (tgt := 41) dX11_measure_35 rfl (by decide) (fun c_35 => ?_) (fun c_35 => ?_)
      · rw [if_pos ⟨hx, c_24, c_35⟩] at hq
        obtain ⟨h, hh, hh2, rfl⟩ := z_num 2 c_24 (by omega)
        rw [ix_nI (by omega)] at hq
        refine x_ald4 (n := 43) dX11_measure_41 rfl ?_
        refine x_getR (n := 46) flX11_248 rfl dX11_measure_43 rfl (mK_W hM (by omega)) (mP_measured hM (by omega)) ?_
        refine x_ild2 (n := 47) dX11_measure_46 rfl ?_
        refine x_ild3 (n := 48) dX11_measure_47 rfl ?_
        have hcell : I (1 + 15 + 2 * w + 1) h = g (120 + 10 * w + 7 + h) := by rcases (by omega : h = 0 ∨ h = 1) with rfl | rfl; exact cW7 hC.2.1 hw; exact cW8 hC.2.1 hw
        refine x_cS3 (n := 51) (d' := 0) zcX11_exchange mlX11_82 dX11_measure_48 rfl (Nat.le_of_ble_eq_true rfl) (Nat.le_of_ble_eq_true rfl) ?_
        refine c_X11_exchange (mA_measured hM (by omega)) (by decide) (by omega) ?_
        rw [hcell]
        refine x_some ?_
        refine r_iret dX11_measure_51 rfl ?_
        exact hq _ (up1 (by omega) (by omega)) (CM_wm hC (by omega) hw (by omega))
      · refine x_ldc (n := 40) dX11_measure_38 rfl kiX11_54 ?_
        refine r_iret dX11_measure_40 rfl ?_
        first | (have h0 : zin v 0 9999 = false := c_35; rw [if_neg (by rintro ⟨_, _, h⟩; rw [h0] at h; cases h)] at hq; exact hq I offM_refl hC) | (have h0 : zin y 0 1 = false := c_24; rw [if_neg (by rintro ⟨_, h, _⟩; rw [h0] at h; cases h)] at hq; exact hq I offM_refl hC)
  · rw [if_neg (fun h => hx h.1)] at hq
    refine x_ald0 (n := 1) dX11_measure_0 rfl ?_
    refine x_getR (n := 4) flX11_10 rfl dX11_measure_1 rfl (lK_L hS) (lP_M hS) ?_
    refine x_getR (n := 7) flX11_55 rfl dX11_measure_4 rfl (mK_M hM) (mP_Ws hM) ?_
    refine x_ild1 (n := 8) dX11_measure_7 rfl ?_
    refine x_cV1 (n := 11) (d' := 1) zcX10_numbered mlX11_142 dX11_measure_8 rfl (mK_Ws hM) (Nat.le_of_ble_eq_true rfl) (Nat.le_of_ble_eq_true rfl) ?_
    refine c_X10_numberedN hM hC.2.1 hB (Bool.eq_false_iff.mpr hx) ?_
    refine x_some ?_
    refine x_nst4 (n := 13) dX11_measure_11 rfl (by decide) rfl ?_
    refine x_nld4 (n := 15) dX11_measure_13 rfl ?_
    refine x_ifnullN (n := 38) dX11_measure_15 (by decide) ?_
    refine x_ldc (n := 40) dX11_measure_38 rfl kiX11_54 ?_
    refine r_iret dX11_measure_40 rfl ?_
    exact hq I offM_refl hC
theorem tL_quarrels (hS : ShL Z) (hC : CM Z I 1 g) (hB : InvB g) (hq : Q (some (.int (f_quarrels g))) Z I) : zM l G mX11_quarrels 1 0 0 [.ref 0] Z I Q := by
  refine x_entry [some (.ref 0)] 0 rfl rfl (Nat.le_of_ble_eq_true rfl) ?_
  have hM := lM1 hS
  refine x_ald0 (n := 1) dX11_quarrels_0 rfl ?_
  refine x_getR (n := 4) flX11_10 rfl dX11_quarrels_1 rfl (lK_L hS) (lP_M hS) ?_
  refine x_getR (n := 7) flX11_55 rfl dX11_quarrels_4 rfl (mK_M hM) (mP_Ws hM) ?_
  refine x_cV0 (n := 10) (d' := 0) zcX10_howManyQuarrel mlX11_251 dX11_quarrels_7 rfl (mK_Ws hM) (Nat.le_of_ble_eq_true rfl) (Nat.le_of_ble_eq_true rfl) ?_
  refine c_X10_howManyQuarrel hM hC.2.1 hB ?_
  refine x_some ?_
  refine r_iret dX11_quarrels_10 rfl ?_
  exact hq
theorem tL_claim (hS : ShL Z) (hC : CM Z I 1 g) (hB : InvB g) {x y v : Int32} (hq : ∀ I', offM 1 I I' → CM Z I' 1 (f_claim g x y v).2 → Q (some (.int (f_claim g x y v).1)) Z I') : zM l G mX11_claim 1 0 0 [.ref 0, .int x, .int y, .int v] Z I Q := by
  refine x_entry [some (.ref 0), some (.int x), some (.int y), some (.int v)] 0 rfl rfl (Nat.le_of_ble_eq_true rfl) ?_
  have hM := lM1 hS
  unfold f_claim at hq
  refine x_ild1 (n := 1) dX11_claim_0 rfl ?_
  refine x_ic0 (n := 2) dX11_claim_1 rfl ?_
  refine x_sipush (n := 5) (v := nI 1999) dX11_claim_2 rfl (by decide) ?_
  refine x_cS3 (n := 8) (d' := 0) zcX11_inside mlX11_50 dX11_claim_5 rfl (Nat.le_of_ble_eq_true rfl) (Nat.le_of_ble_eq_true rfl) ?_
  refine c_X11_inside (zin x 0 1999) (by unfold zin; rfl) ?_
  refine x_some ?_
  refine x_zif_eq (n := 11) (tgt := 31) dX11_claim_8 rfl (by decide) (fun c_8 => ?_) (fun c_8 => ?_)
  · refine x_ldc (n := 33) dX11_claim_31 rfl kiX11_54 ?_
    refine r_iret dX11_claim_33 rfl ?_
    first | (have h0 : zin v 0 3 = false := c_28; rw [if_neg (by rintro ⟨_, _, h⟩; rw [h0] at h; cases h)] at hq; exact hq I offM_refl hC) | (have h0 : zin y x.toInt 1999 = false := c_19; rw [if_neg (by rintro ⟨_, h, _⟩; rw [h0] at h; cases h)] at hq; exact hq I offM_refl hC) | (have h0 : zin x 0 1999 = false := c_8; rw [if_neg (by rintro ⟨h, _⟩; rw [h0] at h; cases h)] at hq; exact hq I offM_refl hC)
  · refine x_ild2 (n := 12) dX11_claim_11 rfl ?_
    refine x_ild1 (n := 13) dX11_claim_12 rfl ?_
    refine x_sipush (n := 16) (v := nI 1999) dX11_claim_13 rfl (by decide) ?_
    refine x_cS3 (n := 19) (d' := 0) zcX11_inside mlX11_50 dX11_claim_16 rfl (Nat.le_of_ble_eq_true rfl) (Nat.le_of_ble_eq_true rfl) ?_
    refine c_X11_inside (zin y x.toInt 1999) (by unfold zin; rfl) ?_
    refine x_some ?_
    refine x_zif_eq (n := 22) (tgt := 31) dX11_claim_19 rfl (by decide) (fun c_19 => ?_) (fun c_19 => ?_)
    · refine x_ldc (n := 33) dX11_claim_31 rfl kiX11_54 ?_
      refine r_iret dX11_claim_33 rfl ?_
      first | (have h0 : zin v 0 3 = false := c_28; rw [if_neg (by rintro ⟨_, _, h⟩; rw [h0] at h; cases h)] at hq; exact hq I offM_refl hC) | (have h0 : zin y x.toInt 1999 = false := c_19; rw [if_neg (by rintro ⟨_, h, _⟩; rw [h0] at h; cases h)] at hq; exact hq I offM_refl hC) | (have h0 : zin x 0 1999 = false := c_8; rw [if_neg (by rintro ⟨h, _⟩; rw [h0] at h; cases h)] at hq; exact hq I offM_refl hC)
    · refine x_ild3 (n := 23) dX11_claim_22 rfl ?_
      refine x_ic0 (n := 24) dX11_claim_23 rfl ?_
      refine x_ic3 (n := 25) dX11_claim_24 rfl ?_
      refine x_cS3 (n := 28) (d' := 0) zcX11_inside mlX11_50 dX11_claim_25 rfl (Nat.le_of_ble_eq_true rfl) (Nat.le_of_ble_eq_true rfl) ?_
      refine c_X11_inside (zin v 0 3) (by unfold zin; rfl) ?_
      refine x_some ?_
      refine x_zif_ne (n := 31) (tgt := 34) dX11_claim_28 rfl (by decide) (fun c_28 => ?_) (fun c_28 => ?_)
      · rw [if_pos ⟨c_8, c_19, c_28⟩] at hq
        refine x_ald0 (n := 35) dX11_claim_34 rfl ?_
        refine x_getR (n := 38) flX11_10 rfl dX11_claim_35 rfl (lK_L hS) (lP_M hS) ?_
        refine x_getR (n := 41) flX11_256 rfl dX11_claim_38 rfl (mK_M hM) (mP_Cl hM) ?_
        refine x_ild1 (n := 42) dX11_claim_41 rfl ?_
        refine x_ild2 (n := 43) dX11_claim_42 rfl ?_
        refine x_ild3 (n := 44) dX11_claim_43 rfl ?_
        refine x_cV3 (n := 47) (d' := 0) zcX0_addClaim mlX11_260 dX11_claim_44 rfl (mK_Cl hM) (Nat.le_of_ble_eq_true rfl) (Nat.le_of_ble_eq_true rfl) ?_
        refine c_X0_addClaim hM hC hB (by omega) (fun I1 h1 h2 => ?_)
        refine x_some ?_
        refine r_iret dX11_claim_47 rfl ?_
        by_cases h20 : vN g 4 = 20
        · rw [if_pos h20] at hq h2 ⊢; exact hq I1 h1 h2
        · rw [if_neg h20] at hq h2 ⊢; exact hq I1 h1 h2
      · refine x_ldc (n := 33) dX11_claim_31 rfl kiX11_54 ?_
        refine r_iret dX11_claim_33 rfl ?_
        first | (have h0 : zin v 0 3 = false := c_28; rw [if_neg (by rintro ⟨_, _, h⟩; rw [h0] at h; cases h)] at hq; exact hq I offM_refl hC) | (have h0 : zin y x.toInt 1999 = false := c_19; rw [if_neg (by rintro ⟨_, h, _⟩; rw [h0] at h; cases h)] at hq; exact hq I offM_refl hC) | (have h0 : zin x 0 1999 = false := c_8; rw [if_neg (by rintro ⟨h, _⟩; rw [h0] at h; cases h)] at hq; exact hq I offM_refl hC)
theorem gvS_one (c : Nat) : ∀ n, n ≤ c → zsum (gvS g c) n = 0
  | 0, _ => rfl
  | n + 1, h => by
    show zsum (gvS g c) n + gvS g c n = 0
    rw [gvS_one c n (by omega)]; unfold gvS; rw [if_neg (by omega)]
theorem gvS_all : ∀ n, zsum (gvS g 0) n = zsum (gGv g) n
  | 0 => rfl
  | n + 1 => by
    show zsum (gvS g 0) n + gvS g 0 n = zsum (gGv g) n + gGv g n
    rw [gvS_all n]; unfold gvS; rw [if_pos (by omega)]
theorem tL_given (hS : ShL Z) (hC : CM Z I 1 g) (hB : InvB g) (hT : InvT g) {x : Int32} (hq : ∀ I', offM 1 I I' → CM Z I' 1 g → Q (some (.int (f_given g x))) Z I') : zM l G mX11_given 5 0 0 [.ref 0, .int x] Z I Q := by
  refine x_entry [some (.ref 0), some (.int x)] 0 rfl rfl (Nat.le_of_ble_eq_true rfl) ?_
  have hM := lM1 hS
  have h20 := (iv4 hB).2
  unfold f_given at hq
  refine x_ild1 (n := 1) dX11_given_0 rfl ?_
  refine x_ic0 (n := 2) dX11_given_1 rfl ?_
  refine x_ald0 (n := 3) dX11_given_2 rfl ?_
  refine x_getR (n := 6) flX11_10 rfl dX11_given_3 rfl (lK_L hS) (lP_M hS) ?_
  refine x_getR (n := 9) flX11_256 rfl dX11_given_6 rfl (mK_M hM) (mP_Cl hM) ?_
  refine x_getI (n := 12) flX11_263 rfl dX11_given_9 rfl (mK_Cl hM) ?_
  refine x_ic1 (n := 13) dX11_given_12 rfl ?_
  rw [vC4 hC.2.2.2.2.1 hB]
  refine x_isub (n := 14) dX11_given_13 rfl ?_
  refine x_cS3 (n := 17) (d' := 0) zcX11_inside mlX11_50 dX11_given_14 rfl (Nat.le_of_ble_eq_true rfl) (Nat.le_of_ble_eq_true rfl) ?_
  refine c_X11_inside (zin x 0 ((vN g 4 : Int) - 1)) (by unfold zin; rw [pk_sub_toInt (by omega) (by omega)]; rfl) ?_
  refine x_some ?_
  refine x_zif_ne (n := 20) (tgt := 23) dX11_given_17 rfl (by decide) (fun c_17 => ?_) (fun c_17 => ?_)
  · rw [if_pos c_17] at hq
    obtain ⟨c, hc, rfl⟩ := z_chain c_17
    rw [ix_nI (by omega)] at hq
    refine x_ald0 (n := 24) dX11_given_23 rfl ?_
    refine x_getR (n := 27) flX11_10 rfl dX11_given_24 rfl (lK_L hS) (lP_M hS) ?_
    refine x_ild1 (n := 28) dX11_given_27 rfl ?_
    refine x_ild1 (n := 29) dX11_given_28 rfl ?_
    refine x_cV2 (n := 32) (d' := 4) zcX2_givenDays mlX11_264 dX11_given_29 rfl (mK_M hM) (Nat.le_of_ble_eq_true rfl) (Nat.le_of_ble_eq_true rfl) ?_
    refine c_X2_givenDays hM (by omega) hC hB hT (E := c + 1) (by omega) (by rw [nI_toInt (by omega)]; omega) (by omega) (fun I1 h1 h2 => ?_)
    refine x_some ?_
    refine r_iret dX11_given_32 rfl ?_
    have e : zsum (gvS g c) (c + 1) = gGv g c := by
      show zsum (gvS g c) c + gvS g c c = gGv g c
      rw [gvS_one c c (by omega)]; unfold gvS; rw [if_pos (by omega), Nat.zero_add]
    rw [e]; exact hq I1 h1 h2
  · refine x_ldc (n := 22) dX11_given_20 rfl kiX11_54 ?_
    refine r_iret dX11_given_22 rfl ?_
    rw [if_neg (by rw [c_17]; decide)] at hq; exact hq I offM_refl hC
theorem tL_late (hS : ShL Z) (hC : CM Z I 1 g) (hB : InvB g) (hT : InvT g) {x : Int32} (hq : ∀ I', offM 1 I I' → CM Z I' 1 g → Q (some (.int (f_late g x))) Z I') : zM l G mX11_late 5 0 0 [.ref 0, .int x] Z I Q := by
  refine x_entry [some (.ref 0), some (.int x), none] 1 rfl rfl (Nat.le_of_ble_eq_true rfl) ?_
  have hM := lM1 hS
  have h20 := (iv4 hB).2
  unfold f_late at hq
  refine x_ild1 (n := 1) dX11_late_0 rfl ?_
  refine x_ic0 (n := 2) dX11_late_1 rfl ?_
  refine x_sipush (n := 5) (v := nI 9999) dX11_late_2 rfl (by decide) ?_
  refine x_cS3 (n := 8) (d' := 0) zcX11_inside mlX11_50 dX11_late_5 rfl (Nat.le_of_ble_eq_true rfl) (Nat.le_of_ble_eq_true rfl) ?_
  refine c_X11_inside (zin x 0 9999) (by unfold zin; rfl) ?_
  refine x_some ?_
  refine x_zif_ne (n := 11) (tgt := 14) dX11_late_8 rfl (by decide) (fun c_8 => ?_) (fun c_8 => ?_)
  · rw [if_pos c_8] at hq
    refine x_ild1 (n := 15) dX11_late_14 rfl ?_
    refine x_ald0 (n := 16) dX11_late_15 rfl ?_
    refine x_getR (n := 19) flX11_10 rfl dX11_late_16 rfl (lK_L hS) (lP_M hS) ?_
    refine x_getR (n := 22) flX11_65 rfl dX11_late_19 rfl (mK_M hM) (mP_Gr hM) ?_
    refine x_getR (n := 25) flX11_113 rfl dX11_late_22 rfl (mK_Gr hM) (mP_ruleRow hM) ?_
    refine x_ic5 (n := 26) dX11_late_25 rfl ?_
    refine x_ialdN (n := 27) dX11_late_26 rfl (mA_ruleRow hM) (Nat.le_of_ble_eq_true rfl) (by omega) ?_
    rw [show I (1 + 5) 5 = g 16 from cG5 hC.1 (k := 5) (by omega)]
    refine x_isub (n := 28) dX11_late_27 rfl ?_
    refine x_ald0 (n := 29) dX11_late_28 rfl ?_
    refine x_getR (n := 32) flX11_10 rfl dX11_late_29 rfl (lK_L hS) (lP_M hS) ?_
    refine x_ic0 (n := 33) dX11_late_32 rfl ?_
    refine x_ald0 (n := 34) dX11_late_33 rfl ?_
    refine x_getR (n := 37) flX11_10 rfl dX11_late_34 rfl (lK_L hS) (lP_M hS) ?_
    refine x_getR (n := 40) flX11_256 rfl dX11_late_37 rfl (mK_M hM) (mP_Cl hM) ?_
    refine x_getI (n := 43) flX11_263 rfl dX11_late_40 rfl (mK_Cl hM) ?_
    refine x_ic1 (n := 44) dX11_late_43 rfl ?_
    rw [vC4 hC.2.2.2.2.1 hB]
    refine x_isub (n := 45) dX11_late_44 rfl ?_
    refine x_cV2 (n := 48) (d' := 4) zcX2_givenDays mlX11_264 dX11_late_45 rfl (mK_M hM) (Nat.le_of_ble_eq_true rfl) (Nat.le_of_ble_eq_true rfl) ?_
    refine c_X2_givenDays (F := 0) hM (by omega) hC hB hT (E := vN g 4) (by omega) (by rw [pk_sub_toInt (by omega) (by omega)]; omega) (Nat.le_refl _) (fun I1 h1 h2 => ?_)
    rw [gvS_all]
    refine x_some ?_
    refine x_isub (n := 49) dX11_late_48 rfl ?_
    refine x_top (y := gLate g x) rfl ?_
    refine x_ist2 (n := 50) dX11_late_49 rfl (by decide) rfl ?_
    refine x_ald0 (n := 51) dX11_late_50 rfl ?_
    refine x_getR (n := 54) flX11_10 rfl dX11_late_51 rfl (lK_L hS) (lP_M hS) ?_
    refine x_getR (n := 57) flX11_216 rfl dX11_late_54 rfl (mK_M hM) (mP_Ts hM) ?_
    refine x_ic2 (n := 58) dX11_late_57 rfl ?_
    refine x_ald0 (n := 59) dX11_late_58 rfl ?_
    refine x_getR (n := 62) flX11_10 rfl dX11_late_59 rfl (lK_L hS) (lP_M hS) ?_
    refine x_getI (n := 65) flX11_152 rfl dX11_late_62 rfl (mK_M hM) ?_
    refine x_ic0 (n := 66) dX11_late_65 rfl ?_
    refine x_ild2 (n := 67) dX11_late_66 rfl ?_
    refine x_mmax (n := 70) dX11_late_67 rfl mlX11_267 zu_max zi_J9 zv_max (by decide) (Nat.le_of_ble_eq_true rfl) ?_
    refine x_ic0 (n := 71) dX11_late_70 rfl ?_
    refine x_ic0 (n := 72) dX11_late_71 rfl ?_
    rw [h2.2.2.2.2.2.2.2.1]
    refine x_cV5 (n := 75) (d' := 2) zcX8_ruling mlX11_240 dX11_late_72 rfl (mK_Ts hM) (Nat.le_of_ble_eq_true rfl) (Nat.le_of_ble_eq_true rfl) ?_
    refine c_X8_ruling hM (by omega) h2.2.2.2.1 hB hT (by omega) (fun I2 hI2 => ?_)
    refine x_some ?_
    refine r_iret dX11_late_75 rfl ?_
    have e : (if nI 0 < gLate g x then gLate g x else nI 0) = (if gLate g x < 0 then nI 0 else gLate g x) := by
      by_cases h : gLate g x < 0
      · rw [if_pos h, if_neg (by rw [zlt, Int32.toInt_zero] at h; rw [zlt, show (nI 0).toInt = 0 by decide]; omega)]
      · rw [if_neg h]
        by_cases h2 : nI 0 < gLate g x
        · rw [if_pos h2]
        · rw [if_neg h2]; rw [zlt, Int32.toInt_zero] at h; rw [zlt, show (nI 0).toInt = 0 by decide] at h2; exact Int32.toInt_inj.mp (by rw [show (nI 0).toInt = 0 by decide]; omega)
    rw [e]; exact hq I2 (offM_trans h1 (off65 hI2)) (CM65 h2 hI2 (by omega))
  · refine x_ldc (n := 13) dX11_late_11 rfl kiX11_54 ?_
    refine r_iret dX11_late_13 rfl ?_
    rw [if_neg (by rw [c_8]; decide)] at hq; exact hq I offM_refl hC
theorem tL_call (hS : ShL Z) (hC : CM Z I 1 g) (hB : InvB g) {x : Int32} (hq : ∀ I', offM 1 I I' → CM Z I' 1 (f_call g x).2 → Q (some (.int (f_call g x).1)) Z I') : zM l G mX11_call 1 0 0 [.ref 0, .int x] Z I Q := by
  refine x_entry [some (.ref 0), some (.int x)] 0 rfl rfl (Nat.le_of_ble_eq_true rfl) ?_
  have hM := lM1 hS
  unfold f_call at hq
  refine x_ild1 (n := 1) dX11_call_0 rfl ?_
  refine x_ic1 (n := 2) dX11_call_1 rfl ?_
  refine x_ldcw (n := 5) dX11_call_2 rfl kiX11_272 ?_
  refine x_cS3 (n := 8) (d' := 0) zcX11_inside mlX11_50 dX11_call_5 rfl (Nat.le_of_ble_eq_true rfl) (Nat.le_of_ble_eq_true rfl) ?_
  refine c_X11_inside (zin x 1 99999) (by unfold zin; rfl) ?_
  refine x_some ?_
  refine x_zif_ne (n := 11) (tgt := 14) dX11_call_8 rfl (by decide) (fun c_8 => ?_) (fun c_8 => ?_)
  · rw [if_pos c_8] at hq
    refine x_ald0 (n := 15) dX11_call_14 rfl ?_
    refine x_getR (n := 18) flX11_10 rfl dX11_call_15 rfl (lK_L hS) (lP_M hS) ?_
    refine x_getR (n := 21) flX11_273 rfl dX11_call_18 rfl (mK_M hM) (mP_Pu hM) ?_
    refine x_dup (n := 22) dX11_call_21 rfl rfl ?_
    refine x_getI (n := 25) flX11_277 rfl dX11_call_22 rfl (mK_Pu hM) ?_
    refine x_ild1 (n := 26) dX11_call_25 rfl ?_
    rw [hC.2.2.2.2.2.1.2.1]
    refine x_iadd (n := 27) dX11_call_26 rfl ?_
    refine x_putI (n := 30) flX11_277 rfl (Or.inl rfl) rfl rfl dX11_call_27 rfl (mK_Pu hM) ?_
    refine x_ald0 (n := 31) dX11_call_30 rfl ?_
    refine x_getR (n := 34) flX11_10 rfl dX11_call_31 rfl (lK_L hS) (lP_M hS) ?_
    refine x_getR (n := 37) flX11_273 rfl dX11_call_34 rfl (mK_M hM) (mP_Pu hM) ?_
    refine x_getI (n := 40) flX11_277 rfl dX11_call_37 rfl (mK_Pu hM) ?_
    refine r_iret dX11_call_40 rfl ?_
    rw [va_up_same, upd_same]; exact hq _ (up1 (by omega) (by omega)) (CM_coin (f := 0) hC (by omega) (by omega))
  · refine x_ldc (n := 13) dX11_call_11 rfl kiX11_54 ?_
    refine r_iret dX11_call_13 rfl ?_
    rw [if_neg (by rw [c_8]; decide)] at hq; exact hq I offM_refl hC
theorem tL_due (hS : ShL Z) (hC : CM Z I 1 g) (hB : InvB g) {x y : Int32} (hq : ∀ I', offM 1 I I' → CM Z I' 1 (f_due g x y).2 → Q (some (.int (f_due g x y).1)) Z I') : zM l G mX11_due 1 0 0 [.ref 0, .int x, .int y] Z I Q := by
  refine x_entry [some (.ref 0), some (.int x), some (.int y)] 0 rfl rfl (Nat.le_of_ble_eq_true rfl) ?_
  have hM := lM1 hS
  unfold f_due at hq
  refine x_ild1 (n := 1) dX11_due_0 rfl ?_
  refine x_ald0 (n := 2) dX11_due_1 rfl ?_
  refine x_getR (n := 5) flX11_10 rfl dX11_due_2 rfl (lK_L hS) (lP_M hS) ?_
  refine x_getI (n := 8) flX11_152 rfl dX11_due_5 rfl (mK_M hM) ?_
  rw [hC.2.2.2.2.2.2.2.1]
  refine x_sipush (n := 11) (v := nI 1999) dX11_due_8 rfl (by decide) ?_
  refine x_cS3 (n := 14) (d' := 0) zcX11_inside mlX11_50 dX11_due_11 rfl (Nat.le_of_ble_eq_true rfl) (Nat.le_of_ble_eq_true rfl) ?_
  refine c_X11_inside (zin x (g 8).toInt 1999) (by unfold zin; rfl) ?_
  refine x_some ?_
  refine x_zif_eq (n := 17) (tgt := 30) dX11_due_14 rfl (by decide) (fun c_14 => ?_) (fun c_14 => ?_)
  · refine x_ldc (n := 32) dX11_due_30 rfl kiX11_54 ?_
    refine r_iret dX11_due_32 rfl ?_
    first | (have h0 : zin y (-99999) 99999 = false := c_27; rw [if_neg (by rintro ⟨_, h⟩; rw [h0] at h; cases h)] at hq; exact hq I offM_refl hC) | (have h0 : zin x (g 8).toInt 1999 = false := c_14; rw [if_neg (by rintro ⟨h, _⟩; rw [h0] at h; cases h)] at hq; exact hq I offM_refl hC)
  · refine x_ild2 (n := 18) dX11_due_17 rfl ?_
    refine x_ldcw (n := 21) dX11_due_18 rfl kiX11_282 ?_
    refine x_ldcw (n := 24) dX11_due_21 rfl kiX11_272 ?_
    refine x_cS3 (n := 27) (d' := 0) zcX11_inside mlX11_50 dX11_due_24 rfl (Nat.le_of_ble_eq_true rfl) (Nat.le_of_ble_eq_true rfl) ?_
    refine c_X11_inside (zin y (-99999) 99999) (by unfold zin; rfl) ?_
    refine x_some ?_
    refine x_zif_ne (n := 30) (tgt := 33) dX11_due_27 rfl (by decide) (fun c_27 => ?_) (fun c_27 => ?_)
    · rw [if_pos ⟨c_14, c_27⟩] at hq
      refine x_ald0 (n := 34) dX11_due_33 rfl ?_
      refine x_getR (n := 37) flX11_10 rfl dX11_due_34 rfl (lK_L hS) (lP_M hS) ?_
      refine x_getR (n := 40) flX11_273 rfl dX11_due_37 rfl (mK_M hM) (mP_Pu hM) ?_
      refine x_ild1 (n := 41) dX11_due_40 rfl ?_
      refine x_ild2 (n := 42) dX11_due_41 rfl ?_
      refine x_cV2 (n := 45) (d' := 0) zcX4_addDue mlX11_283 dX11_due_42 rfl (mK_Pu hM) (Nat.le_of_ble_eq_true rfl) (Nat.le_of_ble_eq_true rfl) ?_
      refine c_X4_addDue hM hC hB (by omega) (fun I1 h1 h2 => ?_)
      refine x_some ?_
      refine r_iret dX11_due_45 rfl ?_
      by_cases h20 : vN g 5 = 20
      · rw [if_pos h20] at hq h2 ⊢; exact hq I1 h1 h2
      · rw [if_neg h20] at hq h2 ⊢; exact hq I1 h1 h2
    · refine x_ldc (n := 32) dX11_due_30 rfl kiX11_54 ?_
      refine r_iret dX11_due_32 rfl ?_
      first | (have h0 : zin y (-99999) 99999 = false := c_27; rw [if_neg (by rintro ⟨_, h⟩; rw [h0] at h; cases h)] at hq; exact hq I offM_refl hC) | (have h0 : zin x (g 8).toInt 1999 = false := c_14; rw [if_neg (by rintro ⟨h, _⟩; rw [h0] at h; cases h)] at hq; exact hq I offM_refl hC)
theorem tL_out (hS : ShL Z) (hC : CM Z I 1 g) (hB : InvB g) (hq : Q (some (.int (f_out g))) Z I) : zM l G mX11_out 2 0 0 [.ref 0] Z I Q := by
  refine x_entry [some (.ref 0)] 0 rfl rfl (Nat.le_of_ble_eq_true rfl) ?_
  have hM := lM1 hS
  refine x_ald0 (n := 1) dX11_out_0 rfl ?_
  refine x_getR (n := 4) flX11_10 rfl dX11_out_1 rfl (lK_L hS) (lP_M hS) ?_
  refine x_getR (n := 7) flX11_273 rfl dX11_out_4 rfl (mK_M hM) (mP_Pu hM) ?_
  refine x_ald0 (n := 8) dX11_out_7 rfl ?_
  refine x_getR (n := 11) flX11_10 rfl dX11_out_8 rfl (lK_L hS) (lP_M hS) ?_
  refine x_getI (n := 14) flX11_152 rfl dX11_out_11 rfl (mK_M hM) ?_
  rw [vD8 hC.2.2.2.2.2.2.2 hB]
  refine x_cV1 (n := 17) (d' := 1) zcX4_runsOut mlX11_286 dX11_out_14 rfl (mK_Pu hM) (Nat.le_of_ble_eq_true rfl) (Nat.le_of_ble_eq_true rfl) ?_
  refine c_X4_runsOut hM hC.2.2.2.2.2.1 hB ?_
  refine x_some ?_
  refine r_iret dX11_out_17 rfl ?_
  exact hq
theorem tL_face (hS : ShL Z) (hC : CM Z I 1 g) (hB : InvB g) {x y : Int32} (hq : ∀ I', offM 1 I I' → CM Z I' 1 (f_face g x y).2 → Q (some (.int (f_face g x y).1)) Z I') : zM l G mX11_face 1 0 0 [.ref 0, .int x, .int y] Z I Q := by
  refine x_entry [some (.ref 0), some (.int x), some (.int y)] 0 rfl rfl (Nat.le_of_ble_eq_true rfl) ?_
  have hM := lM1 hS
  unfold f_face at hq
  refine x_ild1 (n := 1) dX11_face_0 rfl ?_
  refine x_ic0 (n := 2) dX11_face_1 rfl ?_
  refine x_sipush (n := 5) (v := nI 1999) dX11_face_2 rfl (by decide) ?_
  refine x_cS3 (n := 8) (d' := 0) zcX11_inside mlX11_50 dX11_face_5 rfl (Nat.le_of_ble_eq_true rfl) (Nat.le_of_ble_eq_true rfl) ?_
  refine c_X11_inside (zin x 0 1999) (by unfold zin; rfl) ?_
  refine x_some ?_
  refine x_zif_eq (n := 11) (tgt := 21) dX11_face_8 rfl (by decide) (fun c_8 => ?_) (fun c_8 => ?_)
  · refine x_ldc (n := 23) dX11_face_21 rfl kiX11_54 ?_
    refine r_iret dX11_face_23 rfl ?_
    first | (have h0 : zin y 1 99 = false := c_18; rw [if_neg (by rintro ⟨_, h⟩; rw [h0] at h; cases h)] at hq; exact hq I offM_refl hC) | (have h0 : zin x 0 1999 = false := c_8; rw [if_neg (by rintro ⟨h, _⟩; rw [h0] at h; cases h)] at hq; exact hq I offM_refl hC)
  · refine x_ild2 (n := 12) dX11_face_11 rfl ?_
    refine x_ic1 (n := 13) dX11_face_12 rfl ?_
    refine x_bipush (n := 15) (v := nI 99) dX11_face_13 rfl (by decide) ?_
    refine x_cS3 (n := 18) (d' := 0) zcX11_inside mlX11_50 dX11_face_15 rfl (Nat.le_of_ble_eq_true rfl) (Nat.le_of_ble_eq_true rfl) ?_
    refine c_X11_inside (zin y 1 99) (by unfold zin; rfl) ?_
    refine x_some ?_
    refine x_zif_ne (n := 21) (tgt := 24) dX11_face_18 rfl (by decide) (fun c_18 => ?_) (fun c_18 => ?_)
    · rw [if_pos ⟨c_8, c_18⟩] at hq
      refine x_ald0 (n := 25) dX11_face_24 rfl ?_
      refine x_getR (n := 28) flX11_10 rfl dX11_face_25 rfl (lK_L hS) (lP_M hS) ?_
      refine x_getR (n := 31) flX11_289 rfl dX11_face_28 rfl (mK_M hM) (mP_Ma hM) ?_
      refine x_ild1 (n := 32) dX11_face_31 rfl ?_
      refine x_ild2 (n := 33) dX11_face_32 rfl ?_
      refine x_cV2 (n := 36) (d' := 0) zcX3_addFace mlX11_293 dX11_face_33 rfl (mK_Ma hM) (Nat.le_of_ble_eq_true rfl) (Nat.le_of_ble_eq_true rfl) ?_
      refine c_X3_addFace hM hC hB (by omega) (fun I1 h1 h2 => ?_)
      refine x_some ?_
      refine r_iret dX11_face_36 rfl ?_
      by_cases h20 : vN g 6 = 6
      · rw [if_pos h20] at hq h2 ⊢; exact hq I1 h1 h2
      · rw [if_neg h20] at hq h2 ⊢; exact hq I1 h1 h2
    · refine x_ldc (n := 23) dX11_face_21 rfl kiX11_54 ?_
      refine r_iret dX11_face_23 rfl ?_
      first | (have h0 : zin y 1 99 = false := c_18; rw [if_neg (by rintro ⟨_, h⟩; rw [h0] at h; cases h)] at hq; exact hq I offM_refl hC) | (have h0 : zin x 0 1999 = false := c_8; rw [if_neg (by rintro ⟨h, _⟩; rw [h0] at h; cases h)] at hq; exact hq I offM_refl hC)
theorem tL_arch (hS : ShL Z) (hC : CM Z I 1 g) (hB : InvB g) {x : Int32} (hq : ∀ I', offM 1 I I' → CM Z I' 1 (f_arch g x).2 → Q (some (.int (f_arch g x).1)) Z I') : zM l G mX11_arch 1 0 0 [.ref 0, .int x] Z I Q := by
  refine x_entry [some (.ref 0), some (.int x)] 0 rfl rfl (Nat.le_of_ble_eq_true rfl) ?_
  have hM := lM1 hS
  unfold f_arch at hq
  refine x_ild1 (n := 1) dX11_arch_0 rfl ?_
  refine x_ic1 (n := 2) dX11_arch_1 rfl ?_
  refine x_bipush (n := 4) (v := nI 9) dX11_arch_2 rfl (by decide) ?_
  refine x_cS3 (n := 7) (d' := 0) zcX11_inside mlX11_50 dX11_arch_4 rfl (Nat.le_of_ble_eq_true rfl) (Nat.le_of_ble_eq_true rfl) ?_
  refine c_X11_inside (zin x 1 9) (by unfold zin; rfl) ?_
  refine x_some ?_
  refine x_zif_eq (n := 10) (tgt := 24) dX11_arch_7 rfl (by decide) (fun c_7 => ?_) (fun c_7 => ?_)
  · refine x_ldc (n := 26) dX11_arch_24 rfl kiX11_54 ?_
    refine r_iret dX11_arch_26 rfl ?_
    first | (rw [if_pos c_7] at hq; by_cases h8 : vN g 7 = 8; (rw [if_pos h8] at hq h2 ⊢; exact hq I1 h1 h2); (rw [if_neg h8] at hq h2 ⊢; exact hq I1 h1 h2)) | (rw [if_neg (by rw [c_7]; decide)] at hq; exact hq I offM_refl hC)
  · refine x_ald0 (n := 11) dX11_arch_10 rfl ?_
    refine x_getR (n := 14) flX11_10 rfl dX11_arch_11 rfl (lK_L hS) (lP_M hS) ?_
    refine x_getR (n := 17) flX11_289 rfl dX11_arch_14 rfl (mK_M hM) (mP_Ma hM) ?_
    refine x_ild1 (n := 18) dX11_arch_17 rfl ?_
    refine x_cV1 (n := 21) (d' := 0) zcX3_addArch mlX11_301 dX11_arch_18 rfl (mK_Ma hM) (Nat.le_of_ble_eq_true rfl) (Nat.le_of_ble_eq_true rfl) ?_
    refine c_X3_addArch hM hC hB (by omega) (fun I1 h1 h2 => ?_)
    refine x_some ?_
    refine x_goto (n := 26) dX11_arch_21 (by decide) ?_
    refine r_iret dX11_arch_26 rfl ?_
    first | (rw [if_pos c_7] at hq; by_cases h8 : vN g 7 = 8; (rw [if_pos h8] at hq h2 ⊢; exact hq I1 h1 h2); (rw [if_neg h8] at hq h2 ⊢; exact hq I1 h1 h2)) | (rw [if_neg (by rw [c_7]; decide)] at hq; exact hq I offM_refl hC)
theorem tL_goes (hS : ShL Z) (hC : CM Z I 1 g) (hB : InvB g) {x y : Int32} (hq : ∀ I', offM 1 I I' → CM Z I' 1 (f_goes g x y).2 → Q (some (.int (f_goes g x y).1)) Z I') : zM l G mX11_goes 2 0 0 [.ref 0, .int x, .int y] Z I Q := by
  refine x_entry [some (.ref 0), some (.int x), some (.int y), none] 1 rfl rfl (Nat.le_of_ble_eq_true rfl) ?_
  have hM := lM1 hS
  have h8 := (iv2 hB).2
  have h24 := (iv1 hB).2
  unfold f_goes at hq
  have hNI : (-1000000005 : Int32).toInt = -1000000005 := by decide
  have hlo : ∀ k i, (gLeave g k) i = g i ∨ ∃ w, i = 120 + 10 * w + 4 := by
    intro k i
    unfold gLeave
    split
    · exact Or.inl rfl
    · by_cases h : i = 120 + 10 * vN g (360 + 2 * k + 1) + 4
      · exact Or.inr ⟨_, h⟩
      · exact Or.inl (upd_off h)
  have hlo2 : ∀ k i, k < vN g 2 → (i < 120 ∨ 360 ≤ i) → (gLeave g k) i = g i := by
    intro k i hk hi
    unfold gLeave
    split
    · rfl
    · rename_i hn
      have := gang_on hB hk hn
      exact upd_off (by omega)
  have fin : ∀ (k : Nat) (u : Int32) (g2 : Nat → Int32), k < vN g 2 → (∀ i, (i < 120 ∨ 360 ≤ i) → i ≠ 360 + 2 * k + 1 → g2 i = g i) → (∀ i, (∀ w, i ≠ 120 + 10 * w + 4) → (i < 360) → g2 i = g i) → u = orNone (g2 (360 + 2 * k + 1)) → CM Z (va_up I (1 + 13) (upd (I (1 + 13)) k u)) 1 g2 := by
    intro k u g2 hk h1 h2 hu
    refine CM_setA hC (by omega) (fun a a1 a2 a3 => va_up_off a3) (by rw [va_up_off (by omega)]) (fun i i1 i2 i3 => ?_) ?_
    · by_cases hi : i < 360
      · by_cases hw : ∃ w, i = 120 + 10 * w + 4
        · obtain ⟨w, hw⟩ := hw
          have := i3 w
          omega
        · exact h2 i (fun w e => hw ⟨w, e⟩) hi
      · exact h1 i (by omega) (by omega)
    · obtain ⟨p0, p1, p2⟩ := hC.2.2.1
      have e2 : g2 2 = g 2 := h1 2 (by omega) (by omega)
      unfold cmA
      rw [vN_eq e2, e2, va_up_off (by omega), va_up_off (by omega), va_up_same]
      refine ⟨p0, p1, fun j hj => ?_⟩
      rw [h1 (360 + 2 * j) (by omega) (by omega)]
      refine ⟨(p2 j hj).1, ?_⟩
      by_cases hjk : j = k
      · subst hjk; rw [upd_same]; exact hu
      · rw [upd_off hjk, h1 _ (by omega) (by omega)]; exact (p2 j hj).2
  refine x_ild1 (n := 1) dX11_goes_0 rfl ?_
  refine x_ic0 (n := 2) dX11_goes_1 rfl ?_
  refine x_ald0 (n := 3) dX11_goes_2 rfl ?_
  refine x_getR (n := 6) flX11_10 rfl dX11_goes_3 rfl (lK_L hS) (lP_M hS) ?_
  refine x_getR (n := 9) flX11_55 rfl dX11_goes_6 rfl (mK_M hM) (mP_Ws hM) ?_
  refine x_getI (n := 12) flX11_187 rfl dX11_goes_9 rfl (mK_Ws hM) ?_
  refine x_ic1 (n := 13) dX11_goes_12 rfl ?_
  rw [vA2 hC.2.2.1 hB]
  refine x_isub (n := 14) dX11_goes_13 rfl ?_
  refine x_cS3 (n := 17) (d' := 0) zcX11_inside mlX11_50 dX11_goes_14 rfl (Nat.le_of_ble_eq_true rfl) (Nat.le_of_ble_eq_true rfl) ?_
  refine c_X11_inside (zin x 0 ((vN g 2 : Int) - 1)) (by unfold zin; rw [pk_sub_toInt (by omega) (by omega)]; rfl) ?_
  refine x_some ?_
  refine x_zif_ne (n := 20) (tgt := 23) dX11_goes_17 rfl (by decide) (fun c_17 => ?_) (fun c_17 => ?_)
  · obtain ⟨k, hk, rfl⟩ := z_chain c_17
    rw [ix_nI (by omega)] at hq
    have hcell := (hC.2.2.1.2.2 k hk).2
    refine x_ild2 (n := 24) dX11_goes_23 rfl ?_
    refine x_ldc (n := 26) dX11_goes_24 rfl kiX11_97 ?_
    refine x_icmp_eq (n := 29) (tgt := 46) dX11_goes_26 rfl (by decide) (fun c_26 => ?_) (fun c_26 => ?_)
    · rw [if_pos ⟨c_17, Or.inl c_26⟩, if_pos c_26] at hq
      subst c_26
      refine x_ild2 (n := 47) dX11_goes_46 rfl ?_
      refine x_ldc (n := 49) dX11_goes_47 rfl kiX11_97 ?_
      refine x_icmp_ne (n := 52) (tgt := 57) dX11_goes_49 rfl (by decide) (fun c_49 => absurd rfl c_49) (fun c_49 => ?_)
      refine x_ldc (n := 54) dX11_goes_52 rfl kiX11_97 ?_
      refine x_goto (n := 68) dX11_goes_54 (by decide) ?_
      refine x_ist3 (n := 69) dX11_goes_68 rfl (by decide) rfl ?_
      refine x_ild3 (n := 70) dX11_goes_69 rfl ?_
      refine x_ldc (n := 72) dX11_goes_70 rfl kiX11_97 ?_
      refine x_icmp_eq (n := 75) (tgt := 83) dX11_goes_72 rfl (by decide) (fun c_72 => ?_) (fun c_72 => absurd rfl c_72)
      refine x_ald0 (n := 84) dX11_goes_83 rfl ?_
      refine x_getR (n := 87) flX11_10 rfl dX11_goes_84 rfl (lK_L hS) (lP_M hS) ?_
      refine x_getR (n := 90) flX11_55 rfl dX11_goes_87 rfl (mK_M hM) (mP_Ws hM) ?_
      refine x_getR (n := 93) flX11_190 rfl dX11_goes_90 rfl (mK_Ws hM) (mP_gangPlace hM) ?_
      refine x_ild1 (n := 94) dX11_goes_93 rfl ?_
      refine x_ild2 (n := 95) dX11_goes_94 rfl ?_
      refine x_cS3 (n := 98) (d' := 0) zcX11_exchange mlX11_82 dX11_goes_95 rfl (Nat.le_of_ble_eq_true rfl) (Nat.le_of_ble_eq_true rfl) ?_
      refine c_X11_exchange (mA_gangPlace hM) (by decide) (by omega) ?_
      rw [hcell]
      refine x_some ?_
      refine r_iret dX11_goes_98 rfl ?_
      refine hq _ (up1 (by omega) (by omega)) (fin k _ _ hk (fun i i1 i2 => ?_) (fun i i1 i2 => ?_) ?_)
      · dsimp only; rw [upd_off i2]; exact hlo2 k i hk i1
      · dsimp only; rw [upd_off (by omega)]; exact (hlo k i).resolve_right (fun ⟨w, e⟩ => i1 w e)
      · dsimp only; rw [upd_same]; decide
    · refine x_ald0 (n := 30) dX11_goes_29 rfl ?_
      refine x_getR (n := 33) flX11_10 rfl dX11_goes_30 rfl (lK_L hS) (lP_M hS) ?_
      refine x_getR (n := 36) flX11_55 rfl dX11_goes_33 rfl (mK_M hM) (mP_Ws hM) ?_
      refine x_ild2 (n := 37) dX11_goes_36 rfl ?_
      by_cases hy : zin y 0 ((vN g 1 : Int) - 1) = true
      case neg =>
        refine x_cV1 (n := 40) (d' := 1) zcX10_numbered mlX11_142 dX11_goes_37 rfl (mK_Ws hM) (Nat.le_of_ble_eq_true rfl) (Nat.le_of_ble_eq_true rfl) ?_
        refine c_X10_numberedN hM hC.2.1 hB (Bool.eq_false_iff.mpr hy) ?_
        refine x_some ?_
        refine x_ifnonnullN (n := 43) dX11_goes_40 rfl ?_
        refine x_ldc (n := 45) dX11_goes_43 rfl kiX11_54 ?_
        refine r_iret dX11_goes_45 rfl ?_
        rw [if_neg (fun h => h.2.elim (fun e => c_26 e) (fun e => hy e))] at hq
        exact hq I offM_refl hC
      rw [if_pos ⟨c_17, Or.inr hy⟩, if_neg c_26] at hq
      obtain ⟨w, hw, rfl⟩ := z_chain hy
      rw [ix_nI (by omega)] at hq
      have hwI : (nI w).toInt = (w : Int) := nI_toInt (by omega)
      have hkI : (nI k).toInt = (k : Int) := nI_toInt (by omega)
      have hr4 := (ivW hB hw).2.2.2.2.1
      refine x_cV1 (n := 40) (d' := 1) zcX10_numbered mlX11_142 dX11_goes_37 rfl (mK_Ws hM) (Nat.le_of_ble_eq_true rfl) (Nat.le_of_ble_eq_true rfl) ?_
      refine c_X10_numbered hM hC.2.1 hB hw ?_
      refine x_some ?_
      refine x_ifnonnull (n := 46) dX11_goes_40 (by decide) ?_
      refine x_ild2 (n := 47) dX11_goes_46 rfl ?_
      refine x_ldc (n := 49) dX11_goes_47 rfl kiX11_97 ?_
      refine x_icmp_ne (n := 52) (tgt := 57) dX11_goes_49 rfl (by decide) (fun c_49 => ?_) (fun c_49 => ?_)
      · refine x_ald0 (n := 58) dX11_goes_57 rfl ?_
        refine x_getR (n := 61) flX11_10 rfl dX11_goes_58 rfl (lK_L hS) (lP_M hS) ?_
        refine x_getR (n := 64) flX11_55 rfl dX11_goes_61 rfl (mK_M hM) (mP_Ws hM) ?_
        refine x_ild2 (n := 65) dX11_goes_64 rfl ?_
        refine x_cV1 (n := 68) (d' := 0) zcX10_gangAt mlX11_149 dX11_goes_65 rfl (mK_Ws hM) (Nat.le_of_ble_eq_true rfl) (Nat.le_of_ble_eq_true rfl) ?_
        refine c_X10_gangAt hM hC.2.2.1 hB hw ?_
        refine x_some ?_
        refine x_ist3 (n := 69) dX11_goes_68 rfl (by decide) rfl ?_
        refine x_ild3 (n := 70) dX11_goes_69 rfl ?_
        refine x_ldc (n := 72) dX11_goes_70 rfl kiX11_97 ?_
        refine x_icmp_eq (n := 75) (tgt := 83) dX11_goes_72 rfl (by decide) (fun c_72 => ?_) (fun c_72 => ?_)
        · refine x_ald0 (n := 84) dX11_goes_83 rfl ?_
          refine x_getR (n := 87) flX11_10 rfl dX11_goes_84 rfl (lK_L hS) (lP_M hS) ?_
          refine x_getR (n := 90) flX11_55 rfl dX11_goes_87 rfl (mK_M hM) (mP_Ws hM) ?_
          refine x_getR (n := 93) flX11_190 rfl dX11_goes_90 rfl (mK_Ws hM) (mP_gangPlace hM) ?_
          refine x_ild1 (n := 94) dX11_goes_93 rfl ?_
          refine x_ild2 (n := 95) dX11_goes_94 rfl ?_
          have hcond : (g (120 + 10 * w + 4)).toInt < 0 ∨ g (120 + 10 * w + 4) = nI k := by
            by_cases h : (g (120 + 10 * w + 4)).toInt < 0
            · exact Or.inl h
            · unfold orNone at c_72
              rw [if_neg h] at c_72
              first
                | (exfalso; rw [c_72, hNI] at h; omega)
                | (unfold orNone at c_77; rw [if_neg h] at c_77; exact Or.inr c_77)
          rw [if_pos hcond] at hq
          refine x_cS3 (n := 98) (d' := 0) zcX11_exchange mlX11_82 dX11_goes_95 rfl (Nat.le_of_ble_eq_true rfl) (Nat.le_of_ble_eq_true rfl) ?_
          refine c_X11_exchange (mA_gangPlace hM) (by decide) (by omega) ?_
          rw [hcell]
          refine x_some ?_
          refine r_iret dX11_goes_98 rfl ?_
          refine hq _ (up1 (by omega) (by omega)) (fin k _ _ hk (fun i i1 i2 => ?_) (fun i i1 i2 => ?_) ?_)
          · dsimp only; rw [upd_off (by omega), upd_off i2]; exact hlo2 k i hk i1
          · dsimp only; rw [upd_off (i1 w), upd_off (by omega)]; exact (hlo k i).resolve_right (fun ⟨w, e⟩ => i1 w e)
          · dsimp only; rw [upd_off (by omega), upd_same]; unfold orNone; rw [hwI, if_neg (by omega)]
        · refine x_ild3 (n := 76) dX11_goes_75 rfl ?_
          refine x_ild1 (n := 77) dX11_goes_76 rfl ?_
          refine x_icmp_eq (n := 80) (tgt := 83) dX11_goes_77 rfl (by decide) (fun c_77 => ?_) (fun c_77 => ?_)
          · refine x_ald0 (n := 84) dX11_goes_83 rfl ?_
            refine x_getR (n := 87) flX11_10 rfl dX11_goes_84 rfl (lK_L hS) (lP_M hS) ?_
            refine x_getR (n := 90) flX11_55 rfl dX11_goes_87 rfl (mK_M hM) (mP_Ws hM) ?_
            refine x_getR (n := 93) flX11_190 rfl dX11_goes_90 rfl (mK_Ws hM) (mP_gangPlace hM) ?_
            refine x_ild1 (n := 94) dX11_goes_93 rfl ?_
            refine x_ild2 (n := 95) dX11_goes_94 rfl ?_
            have hcond : (g (120 + 10 * w + 4)).toInt < 0 ∨ g (120 + 10 * w + 4) = nI k := by
              by_cases h : (g (120 + 10 * w + 4)).toInt < 0
              · exact Or.inl h
              · unfold orNone at c_72
                rw [if_neg h] at c_72
                first
                  | (exfalso; rw [c_72, hNI] at h; omega)
                  | (unfold orNone at c_77; rw [if_neg h] at c_77; exact Or.inr c_77)
            rw [if_pos hcond] at hq
            refine x_cS3 (n := 98) (d' := 0) zcX11_exchange mlX11_82 dX11_goes_95 rfl (Nat.le_of_ble_eq_true rfl) (Nat.le_of_ble_eq_true rfl) ?_
            refine c_X11_exchange (mA_gangPlace hM) (by decide) (by omega) ?_
            rw [hcell]
            refine x_some ?_
            refine r_iret dX11_goes_98 rfl ?_
            refine hq _ (up1 (by omega) (by omega)) (fin k _ _ hk (fun i i1 i2 => ?_) (fun i i1 i2 => ?_) ?_)
            · dsimp only; rw [upd_off (by omega), upd_off i2]; exact hlo2 k i hk i1
            · dsimp only; rw [upd_off (i1 w), upd_off (by omega)]; exact (hlo k i).resolve_right (fun ⟨w, e⟩ => i1 w e)
            · dsimp only; rw [upd_off (by omega), upd_same]; unfold orNone; rw [hwI, if_neg (by omega)]
          · refine x_ldc (n := 82) dX11_goes_80 rfl kiX11_64 ?_
            refine r_iret dX11_goes_82 rfl ?_
            rw [if_neg ?_] at hq
            · exact hq I offM_refl hC
            · unfold orNone at c_72 c_77
              rintro (h | h)
              · rw [if_pos h] at c_72; exact c_72 rfl
              · rw [h, hkI, if_neg (by omega)] at c_77; exact c_77 rfl
      · exact absurd c_49 c_26
  · refine x_ldc (n := 22) dX11_goes_20 rfl kiX11_54 ?_
    refine r_iret dX11_goes_22 rfl ?_
    rw [if_neg (by rintro ⟨h, _⟩; rw [c_17] at h; cases h)] at hq; exact hq I offM_refl hC
end
