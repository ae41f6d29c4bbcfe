section
variable {l : Launch} {G : zG} {Z : zS} {I I' : zI} {g g' : Nat → Int32} {mk b : Nat} {Q : Option Value → zS → zI → Prop}
theorem CM65 (h : CM Z I mk g) (hI : ∀ a, a ≠ mk + 65 → I' a = I a) (hm : mk < 200) : CM Z I' mk g := CM_of h (fun a ha => hI a (fun e => ha (by subst e; unfold cmOff; omega))) hm
theorem off65 (hI : ∀ a, a ≠ mk + 65 → I' a = I a) : offM mk I I' := fun a ha => hI a (by omega)
theorem CM_coin (h : CM Z I mk g) (hm : mk < 200) {f : Nat} {v : Int32} (hf : f < 2) : CM Z (va_up I (mk + 72) (upd (I (mk + 72)) f v)) mk (upd g (9 + f) v) := by
  refine CM_setP h hm (fun a ha => va_up_off (by omega)) (fun i i1 i2 i3 i4 => upd_off (by omega)) ?_
  obtain ⟨p0, p1, p2, p3, p4⟩ := h.2.2.2.2.2.1
  have e5 : upd g (9 + f) v 5 = g 5 := upd_off (by omega)
  unfold cmP
  rw [vN_eq e5, e5, va_up_same, va_up_off (by omega), va_up_off (by omega)]
  refine ⟨p0, ?_, ?_, ?_, fun k hk => ?_⟩
  · rcases (by omega : f = 0 ∨ f = 1) with rfl | rfl
    · rw [upd_same]; exact upd_same.symm
    · rw [upd_off (by omega), upd_off (by omega)]; exact p1
  · rcases (by omega : f = 0 ∨ f = 1) with rfl | rfl
    · rw [upd_off (by omega), upd_off (by omega)]; exact p2
    · rw [upd_same]; exact upd_same.symm
  · rw [upd_off (by omega)]; exact p3
  · rw [upd_off (by omega), upd_off (by omega)]; exact p4 k hk
theorem CM_day (h : CM Z I mk g) (hm : mk < 200) {v : Int32} : CM Z (va_up I mk (upd (I mk) 7 v)) mk (upd g 8 v) := by
  refine CM_setD h hm (fun a a1 a2 => va_up_off a1) (fun i i1 i2 => upd_off i1) ?_
  unfold cmD
  rw [va_up_same, upd_same, upd_same, va_up_off (by omega)]
  refine ⟨rfl, fun k hk => ?_⟩
  rw [upd_off (by omega)]; exact h.2.2.2.2.2.2.2.2 k hk
theorem upd_id {i : Nat} : upd g i (g i) = g := by
  funext j
  by_cases h : j = i
  · rw [h, upd_same]
  · rw [upd_off h]
theorem c_X2_priceOf (hM : ShM Z mk) (hC : CM Z I mk g) (hB : InvB g) (hT : InvT g) (hm : mk < 200) {w : Nat} (hw : w < vN g 1) (hq : ∀ I', (∀ a, a ≠ mk + 65 → I' a = I a) → Q (some (.int (gPrice g w))) Z I') : zM l G mX2_priceOf 3 0 0 [.ref mk, .ref (mk + 15 + 2 * w)] Z I Q := by
  refine x_entry [some (.ref mk), some (.ref (mk + 15 + 2 * w)), none] 1 rfl rfl (Nat.le_of_ble_eq_true rfl) ?_
  have h24 := (iv1 hB).2
  obtain ⟨c1, c2⟩ := w_chain hB hw
  refine x_ald1 (n := 1) dX2_priceOf_0 rfl ?_
  refine x_ald0 (n := 2) dX2_priceOf_1 rfl ?_
  refine x_getR (n := 5) flX2_12 rfl dX2_priceOf_2 rfl (mK_M hM) (mP_Gr hM) ?_
  refine x_ald1 (n := 6) dX2_priceOf_5 rfl ?_
  refine x_getI (n := 9) flX2_151 rfl dX2_priceOf_6 rfl (mK_W hM (by omega)) ?_
  rw [cW1 hC.2.1 hw, c1]
  refine x_cV1 (n := 12) (d' := 1) zcX1_stratumOf mlX2_154 dX2_priceOf_9 rfl (mK_Gr hM) (Nat.le_of_ble_eq_true rfl) (Nat.le_of_ble_eq_true rfl) ?_
  refine c_X1_stratumOf hM hC.1 hB c2 ?_
  refine x_some ?_
  refine x_cV1 (n := 15) (d' := 0) zcX9_worthIn mlX2_157 dX2_priceOf_12 rfl (mK_W hM (by omega)) (Nat.le_of_ble_eq_true rfl) (Nat.le_of_ble_eq_true rfl) ?_
  refine c_X9_worthIn (mS_W hM (by omega)) ?_
  rw [cW0 hC.2.1 hw]
  refine x_some ?_
  refine x_ist2 (n := 16) dX2_priceOf_15 rfl (by decide) rfl ?_
  refine x_ald0 (n := 17) dX2_priceOf_16 rfl ?_
  refine x_getR (n := 20) flX2_28 rfl dX2_priceOf_17 rfl (mK_M hM) (mP_Ts hM) ?_
  refine x_ic0 (n := 21) dX2_priceOf_20 rfl ?_
  refine x_ald0 (n := 22) dX2_priceOf_21 rfl ?_
  refine x_getI (n := 25) flX2_82 rfl dX2_priceOf_22 rfl (mK_M hM) ?_
  refine x_ald1 (n := 26) dX2_priceOf_25 rfl ?_
  refine x_getI (n := 29) flX2_138 rfl dX2_priceOf_26 rfl (mK_W hM (by omega)) ?_
  refine x_ald0 (n := 30) dX2_priceOf_29 rfl ?_
  refine x_getR (n := 33) flX2_12 rfl dX2_priceOf_30 rfl (mK_M hM) (mP_Gr hM) ?_
  refine x_ald1 (n := 34) dX2_priceOf_33 rfl ?_
  refine x_getI (n := 37) flX2_151 rfl dX2_priceOf_34 rfl (mK_W hM (by omega)) ?_
  rw [cW1 hC.2.1 hw, c1]
  refine x_cV1 (n := 40) (d' := 1) zcX1_depthOf mlX2_160 dX2_priceOf_37 rfl (mK_Gr hM) (Nat.le_of_ble_eq_true rfl) (Nat.le_of_ble_eq_true rfl) ?_
  refine c_X1_depthOf hM hC.1 hB c2 ?_
  refine x_some ?_
  refine x_ild2 (n := 41) dX2_priceOf_40 rfl ?_
  rw [hC.2.2.2.2.2.2.2.1, cW0 hC.2.1 hw]
  refine x_cV5 (n := 44) (d' := 2) zcX8_ruling mlX2_144 dX2_priceOf_41 rfl (mK_Ts hM) (Nat.le_of_ble_eq_true rfl) (Nat.le_of_ble_eq_true rfl) ?_
  refine c_X8_ruling hM hm hC.2.2.2.1 hB hT (by omega) (fun I2 hI2 => ?_)
  refine x_some ?_
  refine r_iret dX2_priceOf_44 rfl ?_
  exact hq I2 hI2
/-- what is paid, whether much or nothing -/
theorem gPay_all (hB : InvB g) {w : Nat} (hw : w < vN g 1) {n : Int32} (hn : n = (if nI 0 < gJoin g w - g (120 + 10 * w + 9) then gJoin g w - g (120 + 10 * w + 9) else nI 0)) :
    gPay g w = upd (upd (upd g 9 (g 9 - (n * gPrice g w - n * gPrice g w * gRule g 1 (g (120 + 10 * w)) (g (120 + 10 * w + 2)) (nI 0) / nI 100))) 10 (g 10 + n * gPrice g w * gRule g 1 (g (120 + 10 * w)) (g (120 + 10 * w + 2)) (nI 0) / nI 100)) (120 + 10 * w + 9) (g (120 + 10 * w + 9) + n) := by
  subst hn
  unfold gPay
  by_cases h : (gJoin g w - g (120 + 10 * w + 9)).toInt ≤ 0
  · rw [if_pos h, if_neg (by rw [zlt, show (nI 0).toInt = 0 by decide]; omega)]
    have e0 : ∀ x : Int32, nI 0 * x = 0 := fun x => Int32.zero_mul
    have e1 : (0 : Int32) / nI 100 = 0 := by decide
    have e2 : ∀ x : Int32, (0 : Int32) * x = 0 := fun x => Int32.zero_mul
    have e3 : ∀ x : Int32, x + nI 0 = x := fun x => Int32.add_zero x
    rw [e0, e2, e1, Int32.sub_self, Int32.sub_zero, Int32.add_zero, e3, upd_id]
    have u2 : upd g 10 (g 10) = g := upd_id
    have u3 : upd g (120 + 10 * w + 9) (g (120 + 10 * w + 9)) = g := upd_id
    rw [u2, u3]
  · rw [if_neg h, if_pos (by rw [zlt, show (nI 0).toInt = 0 by decide]; omega)]
theorem l_X2_pay (hM : ShM Z mk) (hB : InvB g) (hT : InvT g) (hm : mk < 200) (hq : ∀ I', offM mk I I' → CM Z I' mk (zit gPay g (vN g 1)) → Q none Z I') : ∀ m k I1, offM mk I I1 → CM Z I1 mk (zit gPay g k) → k ≤ vN g 1 → vN g 1 - k < m → zX l G mX2_pay 4 0 0 2 [some (.ref mk), some (.int (nI k)), none, none, none, none, none] [] Z I1 Q := by
  intro m
  induction m with
  | zero => intro k I1 _ _ _ h; exact absurd h (by omega)
  | succ m ih =>
    intro k I1 hO hC hk hmm
    obtain ⟨hB1, hT1, hoff⟩ := zPay hB hT k hk
    have e1 : vN (zit gPay g k) 1 = vN g 1 := vN_eq (hoff 1 (by omega) (by omega) (by omega))
    have h1 := vW1 hC.2.1 hB1
    rw [e1] at h1
    have h24 := (iv1 hB).2
    have ih' := fun I2 => ih (k + 1) I2
    have es : zit gPay g (k + 1) = gPay (zit gPay g k) k := rfl
    rw [es] at ih'
    by_cases hkn : k = vN g 1
    · rw [hkn] at hC
      have hend := hq I1 hO hC
      refine x_ild1 (n := 3) dX2_pay_2 rfl ?_
      refine x_ald0 (n := 4) dX2_pay_3 rfl ?_
      refine x_getR (n := 7) flX2_21 rfl dX2_pay_4 rfl (mK_M hM) (mP_Ws hM) ?_
      refine x_getI (n := 10) flX2_110 rfl dX2_pay_7 rfl (mK_Ws hM) ?_
      rw [h1]
      refine x_icmpN_ge (n := 13) (tgt := 126) dX2_pay_10 rfl (by decide) (by omega) (by omega) (fun c_10 => ?_) (fun c_10 => ?_)
      · refine r_vret dX2_pay_126 rfl ?_
        exact hend
      · exact absurd hkn (by omega)
    · have hkl : k < vN g 1 := by omega
      have hkl' : k < vN (zit gPay g k) 1 := by omega
      generalize zit gPay g k = u at hC hB1 hT1 hoff e1 ih' hkl'
      refine x_ild1 (n := 3) dX2_pay_2 rfl ?_
      refine x_ald0 (n := 4) dX2_pay_3 rfl ?_
      refine x_getR (n := 7) flX2_21 rfl dX2_pay_4 rfl (mK_M hM) (mP_Ws hM) ?_
      refine x_getI (n := 10) flX2_110 rfl dX2_pay_7 rfl (mK_Ws hM) ?_
      rw [h1]
      refine x_icmpN_ge (n := 13) (tgt := 126) dX2_pay_10 rfl (by decide) (by omega) (by omega) (fun c_10 => ?_) (fun c_10 => ?_)
      · exact absurd hkl (by omega)
      · refine x_ald0 (n := 14) dX2_pay_13 rfl ?_
        refine x_getR (n := 17) flX2_21 rfl dX2_pay_14 rfl (mK_M hM) (mP_Ws hM) ?_
        refine x_getR (n := 20) flX2_113 rfl dX2_pay_17 rfl (mK_Ws hM) (mP_allW hM) ?_
        refine x_ild1 (n := 21) dX2_pay_20 rfl ?_
        refine x_aaldN (n := 22) dX2_pay_21 rfl (mA_allW hM) ⟨by decide, by decide⟩ (Nat.le_of_ble_eq_true rfl) (by omega) (mP_W hM (by omega)) ?_
        refine x_ast2 (n := 23) dX2_pay_22 rfl (by decide) rfl ?_
        refine x_ic0 (n := 24) dX2_pay_23 rfl ?_
        refine x_ald2 (n := 25) dX2_pay_24 rfl ?_
        refine x_cV0 (n := 28) (d' := 1) zcX9_joined mlX2_117 dX2_pay_25 rfl (mK_W hM (by omega)) (Nat.le_of_ble_eq_true rfl) (Nat.le_of_ble_eq_true rfl) ?_
        refine c_X9_joined (mS_W hM (by omega)) ?_
        refine x_some ?_
        refine x_ald2 (n := 29) dX2_pay_28 rfl ?_
        refine x_getI (n := 32) flX2_123 rfl dX2_pay_29 rfl (mK_W hM (by omega)) ?_
        refine x_isub (n := 33) dX2_pay_32 rfl ?_
        rw [cW3 hC.2.1 hkl', cW6 hC.2.1 hkl', cW7 hC.2.1 hkl', cW8 hC.2.1 hkl']
        refine x_mmax (n := 36) dX2_pay_33 rfl mlX2_126 zu_max zi_J9 zv_max (by decide) (Nat.le_of_ble_eq_true rfl) ?_
        obtain ⟨n, hn⟩ : ∃ n : Int32, n = (if nI 0 < gJoin u k - u (120 + 10 * k + 9) then gJoin u k - u (120 + 10 * k + 9) else nI 0) := ⟨_, rfl⟩
        have hall := gPay_all hB1 hkl' hn
        refine x_top (y := n) hn.symm ?_
        refine x_ist3 (n := 37) dX2_pay_36 rfl (by decide) rfl ?_
        refine x_ild3 (n := 38) dX2_pay_37 rfl ?_
        refine x_ald0 (n := 39) dX2_pay_38 rfl ?_
        refine x_ald2 (n := 40) dX2_pay_39 rfl ?_
        refine x_cV1 (n := 43) (d' := 3) zcX2_priceOf mlX2_132 dX2_pay_40 rfl (mK_M hM) (Nat.le_of_ble_eq_true rfl) (Nat.le_of_ble_eq_true rfl) ?_
        refine c_X2_priceOf hM hC hB1 hT1 hm hkl' (fun I2 hI2 => ?_)
        have hC2 := CM65 hC hI2 hm
        refine x_some ?_
        refine x_imul (n := 44) dX2_pay_43 rfl ?_
        refine x_ist4 (n := 46) dX2_pay_44 rfl (by decide) rfl ?_
        refine x_ald0 (n := 47) dX2_pay_46 rfl ?_
        refine x_getR (n := 50) flX2_28 rfl dX2_pay_47 rfl (mK_M hM) (mP_Ts hM) ?_
        refine x_ic1 (n := 51) dX2_pay_50 rfl ?_
        refine x_ald0 (n := 52) dX2_pay_51 rfl ?_
        refine x_getI (n := 55) flX2_82 rfl dX2_pay_52 rfl (mK_M hM) ?_
        refine x_ald2 (n := 56) dX2_pay_55 rfl ?_
        refine x_getI (n := 59) flX2_138 rfl dX2_pay_56 rfl (mK_W hM (by omega)) ?_
        refine x_ald2 (n := 60) dX2_pay_59 rfl ?_
        refine x_getI (n := 63) flX2_141 rfl dX2_pay_60 rfl (mK_W hM (by omega)) ?_
        refine x_ic0 (n := 64) dX2_pay_63 rfl ?_
        rw [hC2.2.2.2.2.2.2.2.1, cW0 hC2.2.1 hkl', cW2 hC2.2.1 hkl']
        refine x_cV5 (n := 67) (d' := 2) zcX8_ruling mlX2_144 dX2_pay_64 rfl (mK_Ts hM) (Nat.le_of_ble_eq_true rfl) (Nat.le_of_ble_eq_true rfl) ?_
        refine c_X8_ruling hM hm hC2.2.2.2.1 hB1 hT1 (by omega) (fun I3 hI3 => ?_)
        have hC3 := CM65 hC2 hI3 hm
        refine x_some ?_
        refine x_ist5 (n := 69) dX2_pay_67 rfl (by decide) rfl ?_
        refine x_ild4 (n := 71) dX2_pay_69 rfl ?_
        refine x_ild5 (n := 73) dX2_pay_71 rfl ?_
        refine x_imul (n := 74) dX2_pay_73 rfl ?_
        refine x_bipush (n := 76) (v := nI 100) dX2_pay_74 rfl (by decide) ?_
        refine x_idiv (n := 77) dX2_pay_76 rfl (by decide) ?_
        refine x_ist6 (n := 79) dX2_pay_77 rfl (by decide) rfl ?_
        refine x_ald0 (n := 80) dX2_pay_79 rfl ?_
        refine x_getR (n := 83) flX2_42 rfl dX2_pay_80 rfl (mK_M hM) (mP_Pu hM) ?_
        refine x_dup (n := 84) dX2_pay_83 rfl rfl ?_
        refine x_getI (n := 87) flX2_101 rfl dX2_pay_84 rfl (mK_Pu hM) ?_
        refine x_ild4 (n := 89) dX2_pay_87 rfl ?_
        refine x_ild6 (n := 91) dX2_pay_89 rfl ?_
        refine x_isub (n := 92) dX2_pay_91 rfl ?_
        refine x_isub (n := 93) dX2_pay_92 rfl ?_
        rw [hC3.2.2.2.2.2.1.2.1]
        refine x_putI (n := 96) flX2_101 rfl (Or.inl rfl) rfl rfl dX2_pay_93 rfl (mK_Pu hM) ?_
        refine x_ald0 (n := 97) dX2_pay_96 rfl ?_
        refine x_getR (n := 100) flX2_42 rfl dX2_pay_97 rfl (mK_M hM) (mP_Pu hM) ?_
        refine x_dup (n := 101) dX2_pay_100 rfl rfl ?_
        refine x_getI (n := 104) flX2_148 rfl dX2_pay_101 rfl (mK_Pu hM) ?_
        refine x_ild6 (n := 106) dX2_pay_104 rfl ?_
        refine x_iadd (n := 107) dX2_pay_106 rfl ?_
        have hC4 := CM_coin (f := 0) (v := u 9 - (n * gPrice u k - n * gPrice u k * gRule u 1 (u (120 + 10 * k)) (u (120 + 10 * k + 2)) (nI 0) / nI 100)) hC3 hm (by omega)
        rw [hC4.2.2.2.2.2.1.2.2.1, upd_off (by omega)]
        refine x_putI (n := 110) flX2_148 rfl (Or.inl rfl) rfl rfl dX2_pay_107 rfl (mK_Pu hM) ?_
        refine x_ald2 (n := 111) dX2_pay_110 rfl ?_
        refine x_dup (n := 112) dX2_pay_111 rfl rfl ?_
        refine x_getI (n := 115) flX2_123 rfl dX2_pay_112 rfl (mK_W hM (by omega)) ?_
        refine x_ild3 (n := 116) dX2_pay_115 rfl ?_
        refine x_iadd (n := 117) dX2_pay_116 rfl ?_
        have hC5 := CM_coin (f := 1) (v := u 10 + n * gPrice u k * gRule u 1 (u (120 + 10 * k)) (u (120 + 10 * k + 2)) (nI 0) / nI 100) hC4 hm (by omega)
        have hk5 : k < vN (upd (upd u (9 + 0) (u 9 - (n * gPrice u k - n * gPrice u k * gRule u 1 (u (120 + 10 * k)) (u (120 + 10 * k + 2)) (nI 0) / nI 100))) (9 + 1) (u 10 + n * gPrice u k * gRule u 1 (u (120 + 10 * k)) (u (120 + 10 * k + 2)) (nI 0) / nI 100)) 1 := by rw [vN_eq (upd_off (by omega)), vN_eq (upd_off (by omega))]; exact hkl'
        have hC6 := fun v => CM_wf (v := v) hC5 hm hk5 (Or.inr (Or.inr (Or.inr ⟨rfl, rfl⟩)))
        rw [cW6 hC5.2.1 hk5, upd_off (by omega), upd_off (by omega)]
        refine x_putI (n := 120) flX2_123 rfl (Or.inl rfl) rfl rfl dX2_pay_117 rfl (mK_W hM (by omega)) ?_
        refine x_iincN1 (n := 123) (k := 1) dX2_pay_120 rfl (by decide) rfl ?_
        refine x_goto (n := 2) dX2_pay_123 (by decide) ?_
        refine x_fg2 (x_fg3 (x_fg4 (x_fg5 (x_fg6 ?_))))
        refine ih' _ ?_ ?_ (by omega) (by omega)
        · exact offM_trans hO (offM_trans (off65 hI2) (offM_trans (off65 hI3) (offM_up (offM_up (up1 (by omega) (by omega)) (by omega) (by omega)) (by omega) (by omega))))
        · rw [hall]; exact hC6 _
theorem c_X2_pay (hM : ShM Z mk) (hC : CM Z I mk g) (hB : InvB g) (hT : InvT g) (hm : mk < 200) (hq : ∀ I', offM mk I I' → CM Z I' mk (zit gPay g (vN g 1)) → Q none Z I') : zM l G mX2_pay 4 0 0 [.ref mk] Z I Q := by
  refine x_entry [some (.ref mk), none, none, none, none, none, none] 6 rfl rfl (Nat.le_of_ble_eq_true rfl) ?_
  refine x_ic0 (n := 1) dX2_pay_0 rfl ?_
  refine x_ist1 (n := 2) dX2_pay_1 rfl (by decide) rfl ?_
  exact l_X2_pay hM hB hT hm hq (vN g 1 + 1) 0 I offM_refl hC (by omega) (by omega)
end
