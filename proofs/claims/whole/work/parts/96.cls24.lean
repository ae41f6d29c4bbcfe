section
variable {l : Launch} {G : zG} {Z Z' : zS} {I I' : zI} {g g' : Nat → Int32} {mk mk2 m b : Nat} {Q : Option Value → zS → zI → Prop}
theorem thr_bits (hB : InvB g) : zct (fun k => (zbs (gThr g) (vN g 1)).testBit k) 24 = zct (gThr g) (vN g 1) := by
  have h24 := (iv1 hB).2
  have h1 : zct (fun k => (zbs (gThr g) (vN g 1)).testBit k) 24 = zct (gThr g) 24 := zct_cong (fun k _ => by
    rw [zbs_bit]; unfold gThr
    cases decide (k < vN g 1) <;> rfl)
  rw [h1]
  exact zct_stop h24 (fun j hj _ => by unfold gThr; rw [decide_eq_false (by omega)]; rfl)
theorem c_X2_howMany (hM : ShM Z mk) (hC : CM Z I mk g) (hB : InvB g) {x : Int32} (hq : Q (some (.int (if zin x 0 9 = true then countN g (nI 0) (nI 0) (ix x) else -1000000001))) Z I) : zM l G mX2_howMany 2 0 0 [.ref mk, .int x] Z I Q := by
  refine x_entry [some (.ref mk), some (.int x)] 0 rfl rfl (Nat.le_of_ble_eq_true rfl) ?_
  have hin : ∀ j, j < 10 → x = nI j → Q (some (.int (countN g (nI 0) (nI 0) j))) Z I := by
    intro j hj hx
    subst hx
    rw [if_pos (show zin (nI j) 0 9 = true from decide_eq_true (by rw [nI_toInt (by omega)]; omega)), ix_nI (by omega)] at hq
    exact hq
  refine x_ild1 (n := 1) dX2_howMany_0 rfl ?_
  rcases zsw0_9 (x) with hsw | hsw | hsw | hsw | hsw | hsw | hsw | hsw | hsw | hsw | hsw
  · refine x_tswO (n := 139) dX2_howMany_1 hsw (by decide) ?_
    refine x_ldc (n := 141) dX2_howMany_139 rfl kiX2_194 ?_
    refine r_iret dX2_howMany_141 rfl ?_
    rw [if_neg (fun h => by have := zin_t h; omega)] at hq; exact hq
  · refine x_top hsw ?_
    refine x_tswI (n := 56) (off := 55) dX2_howMany_1 (by decide) (by decide) (by decide +kernel) (by decide) ?_
    refine x_ald0 (n := 57) dX2_howMany_56 rfl ?_
    refine x_getR (n := 60) flX2_12 rfl dX2_howMany_57 rfl (mK_M hM) (mP_Gr hM) ?_
    refine x_getI (n := 63) flX2_170 rfl dX2_howMany_60 rfl (mK_Gr hM) ?_
    refine r_iret dX2_howMany_63 rfl ?_
    rw [hC.1.1.2]; exact hin 0 (by omega) hsw
  · refine x_top hsw ?_
    refine x_tswI (n := 64) (off := 63) dX2_howMany_1 (by decide) (by decide) (by decide +kernel) (by decide) ?_
    refine x_ald0 (n := 65) dX2_howMany_64 rfl ?_
    refine x_getR (n := 68) flX2_21 rfl dX2_howMany_65 rfl (mK_M hM) (mP_Ws hM) ?_
    refine x_getI (n := 71) flX2_110 rfl dX2_howMany_68 rfl (mK_Ws hM) ?_
    refine r_iret dX2_howMany_71 rfl ?_
    rw [hC.2.1.2.1]; exact hin 1 (by omega) hsw
  · refine x_top hsw ?_
    refine x_tswI (n := 72) (off := 71) dX2_howMany_1 (by decide) (by decide) (by decide +kernel) (by decide) ?_
    refine x_ald0 (n := 73) dX2_howMany_72 rfl ?_
    refine x_getR (n := 76) flX2_21 rfl dX2_howMany_73 rfl (mK_M hM) (mP_Ws hM) ?_
    refine x_cV0 (n := 79) (d' := 1) zcX10_throughBits mlX2_171 dX2_howMany_76 rfl (mK_Ws hM) (Nat.le_of_ble_eq_true rfl) (Nat.le_of_ble_eq_true rfl) ?_
    refine c_X10_throughBits hM hC.2.1 hB ?_
    refine x_some ?_
    have h24 := (iv1 hB).2
    have hbl : zbs (gThr g) (vN g 1) < 2 ^ 24 := Nat.lt_of_lt_of_le (zbs_lt _ _) (Nat.pow_le_pow_right (by omega) (by omega))
    refine x_cS1 (n := 82) (d' := 0) zcJ6_bitCount_0f7a4 mlX2_174 dX2_howMany_79 rfl (Nat.le_of_ble_eq_true rfl) (Nat.le_of_ble_eq_true rfl) ?_
    refine c_J6_bitCount_0f7a4 hbl ?_
    refine x_some ?_
    refine r_iret dX2_howMany_82 rfl ?_
    rw [thr_bits hB]; exact hin 2 (by omega) hsw
  · refine x_top hsw ?_
    refine x_tswI (n := 83) (off := 82) dX2_howMany_1 (by decide) (by decide) (by decide +kernel) (by decide) ?_
    refine x_ald0 (n := 84) dX2_howMany_83 rfl ?_
    refine x_getR (n := 87) flX2_21 rfl dX2_howMany_84 rfl (mK_M hM) (mP_Ws hM) ?_
    refine x_cV0 (n := 90) (d' := 0) zcX10_howManySlips mlX2_179 dX2_howMany_87 rfl (mK_Ws hM) (Nat.le_of_ble_eq_true rfl) (Nat.le_of_ble_eq_true rfl) ?_
    refine c_X10_howManySlips hM hC.2.1 hB ?_
    refine x_some ?_
    refine r_iret dX2_howMany_90 rfl ?_
    exact hin 3 (by omega) hsw
  · refine x_top hsw ?_
    refine x_tswI (n := 91) (off := 90) dX2_howMany_1 (by decide) (by decide) (by decide +kernel) (by decide) ?_
    refine x_ald0 (n := 92) dX2_howMany_91 rfl ?_
    refine x_getR (n := 95) flX2_21 rfl dX2_howMany_92 rfl (mK_M hM) (mP_Ws hM) ?_
    refine x_getI (n := 98) flX2_182 rfl dX2_howMany_95 rfl (mK_Ws hM) ?_
    refine r_iret dX2_howMany_98 rfl ?_
    rw [hC.2.2.1.2.1]; exact hin 4 (by omega) hsw
  · refine x_top hsw ?_
    refine x_tswI (n := 99) (off := 98) dX2_howMany_1 (by decide) (by decide) (by decide +kernel) (by decide) ?_
    refine x_ald0 (n := 100) dX2_howMany_99 rfl ?_
    refine x_getR (n := 103) flX2_28 rfl dX2_howMany_100 rfl (mK_M hM) (mP_Ts hM) ?_
    refine x_getI (n := 106) flX2_185 rfl dX2_howMany_103 rfl (mK_Ts hM) ?_
    refine r_iret dX2_howMany_106 rfl ?_
    rw [hC.2.2.2.1.2.1]; exact hin 5 (by omega) hsw
  · refine x_top hsw ?_
    refine x_tswI (n := 107) (off := 106) dX2_howMany_1 (by decide) (by decide) (by decide +kernel) (by decide) ?_
    refine x_ald0 (n := 108) dX2_howMany_107 rfl ?_
    refine x_getR (n := 111) flX2_35 rfl dX2_howMany_108 rfl (mK_M hM) (mP_Cl hM) ?_
    refine x_getI (n := 114) flX2_186 rfl dX2_howMany_111 rfl (mK_Cl hM) ?_
    refine r_iret dX2_howMany_114 rfl ?_
    rw [hC.2.2.2.2.1.2.1]; exact hin 6 (by omega) hsw
  · refine x_top hsw ?_
    refine x_tswI (n := 115) (off := 114) dX2_howMany_1 (by decide) (by decide) (by decide +kernel) (by decide) ?_
    refine x_ald0 (n := 116) dX2_howMany_115 rfl ?_
    refine x_getR (n := 119) flX2_42 rfl dX2_howMany_116 rfl (mK_M hM) (mP_Pu hM) ?_
    refine x_getI (n := 122) flX2_187 rfl dX2_howMany_119 rfl (mK_Pu hM) ?_
    refine r_iret dX2_howMany_122 rfl ?_
    rw [hC.2.2.2.2.2.1.2.2.2.1]; exact hin 7 (by omega) hsw
  · refine x_top hsw ?_
    refine x_tswI (n := 123) (off := 122) dX2_howMany_1 (by decide) (by decide) (by decide +kernel) (by decide) ?_
    refine x_ald0 (n := 124) dX2_howMany_123 rfl ?_
    refine x_getR (n := 127) flX2_49 rfl dX2_howMany_124 rfl (mK_M hM) (mP_Ma hM) ?_
    refine x_getI (n := 130) flX2_188 rfl dX2_howMany_127 rfl (mK_Ma hM) ?_
    refine r_iret dX2_howMany_130 rfl ?_
    rw [hC.2.2.2.2.2.2.1.2.1]; exact hin 8 (by omega) hsw
  · refine x_top hsw ?_
    refine x_tswI (n := 131) (off := 130) dX2_howMany_1 (by decide) (by decide) (by decide +kernel) (by decide) ?_
    refine x_ald0 (n := 132) dX2_howMany_131 rfl ?_
    refine x_getR (n := 135) flX2_49 rfl dX2_howMany_132 rfl (mK_M hM) (mP_Ma hM) ?_
    refine x_getI (n := 138) flX2_191 rfl dX2_howMany_135 rfl (mK_Ma hM) ?_
    refine r_iret dX2_howMany_138 rfl ?_
    rw [hC.2.2.2.2.2.2.1.2.2.1]; exact hin 9 (by omega) hsw
theorem tL_count (hS : ShL Z) (hC : CM Z I 1 g) (hB : InvB g) {x : Int32} (hq : Q (some (.int (f_count g (I 0 6) (I 244 1) x))) Z I) : zM l G mX11_count 3 0 0 [.ref 0, .int x] Z I Q := by
  refine x_entry [some (.ref 0), some (.int x)] 0 rfl rfl (Nat.le_of_ble_eq_true rfl) ?_
  have hM := lM1 hS
  unfold f_count at hq
  have hin : ∀ j, j < 15 → x = nI j → Q (some (.int (countN g (I 0 6) (I 244 1) j))) Z I := by
    intro j hj hx
    subst hx
    rw [if_pos (show zin (nI j) 0 14 = true from decide_eq_true (by rw [nI_toInt (by omega)]; omega)), ix_nI (by omega)] at hq
    exact hq
  refine x_ild1 (n := 1) dX11_count_0 rfl ?_
  rcases zsw10_14 (x) with hsw | hsw | hsw | hsw | hsw | hsw
  · refine x_tswO (n := 79) dX11_count_1 hsw (by decide) ?_
    refine x_ald0 (n := 80) dX11_count_79 rfl ?_
    refine x_getR (n := 83) flX11_10 rfl dX11_count_80 rfl (lK_L hS) (lP_M hS) ?_
    refine x_ild1 (n := 84) dX11_count_83 rfl ?_
    refine x_cV1 (n := 87) (d' := 2) zcX2_howMany mlX11_351 dX11_count_84 rfl (mK_M hM) (Nat.le_of_ble_eq_true rfl) (Nat.le_of_ble_eq_true rfl) ?_
    refine c_X2_howMany hM hC hB ?_
    refine x_some ?_
    refine r_iret dX11_count_87 rfl ?_
    by_cases h9 : zin x 0 9 = true
    · obtain ⟨j, hj, hj2, rfl⟩ := z_num 10 h9 (by omega)
      rw [if_pos h9, ix_nI (by omega)]
      have hx := hin j (by omega) rfl
      rw [show countN g (nI 0) (nI 0) j = countN g (I 0 6) (I 244 1) j by match j, hj with | 0, _ => rfl | 1, _ => rfl | 2, _ => rfl | 3, _ => rfl | 4, _ => rfl | 5, _ => rfl | 6, _ => rfl | 7, _ => rfl | 8, _ => rfl | 9, _ => rfl]
      exact hx
    · rw [if_neg h9]
      have h9' := zin_f (Bool.eq_false_iff.mpr h9)
      rw [if_neg (fun h => by have := zin_t h; omega)] at hq; exact hq
  · refine x_top hsw ?_
    refine x_tswI (n := 36) (off := 35) dX11_count_1 (by decide) (by decide) (by decide +kernel) (by decide) ?_
    refine x_ald0 (n := 37) dX11_count_36 rfl ?_
    refine x_getR (n := 40) flX11_10 rfl dX11_count_37 rfl (lK_L hS) (lP_M hS) ?_
    refine x_getR (n := 43) flX11_273 rfl dX11_count_40 rfl (mK_M hM) (mP_Pu hM) ?_
    refine x_getI (n := 46) flX11_277 rfl dX11_count_43 rfl (mK_Pu hM) ?_
    refine r_iret dX11_count_46 rfl ?_
    rw [hC.2.2.2.2.2.1.2.1]; exact hin 10 (by omega) hsw
  · refine x_top hsw ?_
    refine x_tswI (n := 47) (off := 46) dX11_count_1 (by decide) (by decide) (by decide +kernel) (by decide) ?_
    refine x_ald0 (n := 48) dX11_count_47 rfl ?_
    refine x_getR (n := 51) flX11_10 rfl dX11_count_48 rfl (lK_L hS) (lP_M hS) ?_
    refine x_getR (n := 54) flX11_273 rfl dX11_count_51 rfl (mK_M hM) (mP_Pu hM) ?_
    refine x_getI (n := 57) flX11_348 rfl dX11_count_54 rfl (mK_Pu hM) ?_
    refine r_iret dX11_count_57 rfl ?_
    rw [hC.2.2.2.2.2.1.2.2.1]; exact hin 11 (by omega) hsw
  · refine x_top hsw ?_
    refine x_tswI (n := 58) (off := 57) dX11_count_1 (by decide) (by decide) (by decide +kernel) (by decide) ?_
    refine x_ald0 (n := 59) dX11_count_58 rfl ?_
    refine x_getI (n := 62) flX11_40 rfl dX11_count_59 rfl (lK_L hS) ?_
    refine r_iret dX11_count_62 rfl ?_
    exact hin 12 (by omega) hsw
  · refine x_top hsw ?_
    refine x_tswI (n := 63) (off := 62) dX11_count_1 (by decide) (by decide) (by decide +kernel) (by decide) ?_
    refine x_ald0 (n := 64) dX11_count_63 rfl ?_
    refine x_getR (n := 67) flX11_25 rfl dX11_count_64 rfl (lK_L hS) (lP_Tp hS) ?_
    refine x_getI (n := 70) flX11_203 rfl dX11_count_67 rfl (lK_Tp hS) ?_
    refine r_iret dX11_count_70 rfl ?_
    exact hin 13 (by omega) hsw
  · refine x_top hsw ?_
    refine x_tswI (n := 71) (off := 70) dX11_count_1 (by decide) (by decide) (by decide +kernel) (by decide) ?_
    refine x_ald0 (n := 72) dX11_count_71 rfl ?_
    refine x_getR (n := 75) flX11_10 rfl dX11_count_72 rfl (lK_L hS) (lP_M hS) ?_
    refine x_getI (n := 78) flX11_152 rfl dX11_count_75 rfl (mK_M hM) ?_
    refine r_iret dX11_count_78 rfl ?_
    rw [hC.2.2.2.2.2.2.2.1]; exact hin 14 (by omega) hsw
theorem tL_tell (hS : ShL Z) {v : Int32} {w : Nat} (hw : I 0 6 = nI w) (hw2 : w ≤ 60) (hq : Q (some (.int (if w = 60 then -1000000003 else nI (w + 1)))) Z (if w = 60 then I else va_up (va_up I 257 (upd (I 257) w v)) 0 (upd (I 0) 6 (nI (w + 1))))) : zM l G mX11_tell 0 0 0 [.ref 0, .int v] Z I Q := by
  refine x_entry [some (.ref 0), some (.int v)] 0 rfl rfl (Nat.le_of_ble_eq_true rfl) ?_
  refine x_ald0 (n := 1) dX11_tell_0 rfl ?_
  refine x_getI (n := 4) flX11_40 rfl dX11_tell_1 rfl (lK_L hS) ?_
  rw [hw]
  refine x_bipush (n := 6) (v := nI 60) dX11_tell_4 rfl (by decide) ?_
  refine x_icmpN_lt (n := 9) (tgt := 12) dX11_tell_6 rfl (by decide) (by omega) (by omega) (fun c_6 => ?_) (fun c_6 => ?_)
  · refine x_ald0 (n := 13) dX11_tell_12 rfl ?_
    refine x_getR (n := 16) flX11_36 rfl dX11_tell_13 rfl (lK_L hS) (lP_waiting hS) ?_
    refine x_ald0 (n := 17) dX11_tell_16 rfl ?_
    refine x_getI (n := 20) flX11_40 rfl dX11_tell_17 rfl (lK_L hS) ?_
    rw [hw]
    refine x_ild1 (n := 21) dX11_tell_20 rfl ?_
    refine x_iastN (n := 22) dX11_tell_21 rfl (lA_waiting hS) (Nat.le_of_ble_eq_true rfl) (by omega) ?_
    refine x_ald0 (n := 23) dX11_tell_22 rfl ?_
    refine x_dup (n := 24) dX11_tell_23 rfl rfl ?_
    refine x_getI (n := 27) flX11_40 rfl dX11_tell_24 rfl (lK_L hS) ?_
    rw [va_up_off (by omega), hw]
    refine x_ic1 (n := 28) dX11_tell_27 rfl ?_
    refine x_iaddN (n := 29) dX11_tell_28 rfl ?_
    refine x_putI (n := 32) flX11_40 rfl (Or.inl rfl) rfl rfl dX11_tell_29 rfl (lK_L hS) ?_
    refine x_ald0 (n := 33) dX11_tell_32 rfl ?_
    refine x_getI (n := 36) flX11_40 rfl dX11_tell_33 rfl (lK_L hS) ?_
    refine r_iret dX11_tell_36 rfl ?_
    rw [if_neg (by omega), if_neg (by omega)] at hq; rw [va_up_same, upd_same, va_up_off (by omega)]; exact hq
  · refine x_ldc (n := 11) dX11_tell_9 rfl kiX11_196 ?_
    refine r_iret dX11_tell_11 rfl ?_
    rw [if_pos (by omega), if_pos (by omega)] at hq; exact hq
theorem tL_trim (hS : ShL Z) {t : Nat} {x : Int32} (ht : I 244 1 = nI t) (ht2 : t ≤ 96) (hq : Q (some (.int (if zin x 0 t = true then x else -1000000001))) Z (if zin x 0 t = true then va_up I 244 (upd (I 244) 1 x) else I)) : zM l G mX11_trim 1 0 0 [.ref 0, .int x] Z I Q := by
  refine x_entry [some (.ref 0), some (.int x)] 0 rfl rfl (Nat.le_of_ble_eq_true rfl) ?_
  have htI : (nI t).toInt = (t : Int) := nI_toInt (by omega)
  refine x_ild1 (n := 1) dX11_trim_0 rfl ?_
  refine x_ic0 (n := 2) dX11_trim_1 rfl ?_
  refine x_ald0 (n := 3) dX11_trim_2 rfl ?_
  refine x_getR (n := 6) flX11_25 rfl dX11_trim_3 rfl (lK_L hS) (lP_Tp hS) ?_
  refine x_getI (n := 9) flX11_203 rfl dX11_trim_6 rfl (lK_Tp hS) ?_
  rw [ht]
  refine x_cS3 (n := 12) (d' := 0) zcX11_inside mlX11_50 dX11_trim_9 rfl (Nat.le_of_ble_eq_true rfl) (Nat.le_of_ble_eq_true rfl) ?_
  refine c_X11_inside (zin x 0 t) (by unfold zin; rw [htI]; rfl) ?_
  refine x_some ?_
  refine x_zif_ne (n := 15) (tgt := 18) dX11_trim_12 rfl (by decide) (fun c_12 => ?_) (fun c_12 => ?_)
  · refine x_ald0 (n := 19) dX11_trim_18 rfl ?_
    refine x_getR (n := 22) flX11_25 rfl dX11_trim_19 rfl (lK_L hS) (lP_Tp hS) ?_
    refine x_ild1 (n := 23) dX11_trim_22 rfl ?_
    refine x_putI (n := 26) flX11_203 rfl (Or.inl rfl) rfl rfl dX11_trim_23 rfl (lK_Tp hS) ?_
    refine x_ild1 (n := 27) dX11_trim_26 rfl ?_
    refine r_iret dX11_trim_27 rfl ?_
    rw [if_pos c_12, if_pos c_12] at hq; exact hq
  · refine x_ldc (n := 17) dX11_trim_15 rfl kiX11_54 ?_
    refine r_iret dX11_trim_17 rfl ?_
    rw [if_neg (by rw [c_12]; decide), if_neg (by rw [c_12]; decide)] at hq; exact hq
theorem sh8 : ∀ k, k < 3 → nI (24 - 8 * k) + Int32.ofInt (-8) = nI (24 - 8 * (k + 1)) := by decide
theorem l_X6_takeFour (hS : ShL Z) {v : Int32} {t : Nat} (ht : t + 4 ≤ 96) (hq : ∀ I', (∀ a, a ≠ 244 → a ≠ 245 → I' a = I a) → (∀ j, j ≠ 1 → I' 244 j = I 244 j) → I' 244 1 = nI (t + 4) → (∀ j, I' 245 j = if t ≤ j ∧ j < t + 4 then fdB v (j - t) else I 245 j) → Q none Z I') :
    ∀ m k I1, k + m = 4 → (∀ a, a ≠ 244 → a ≠ 245 → I1 a = I a) → (∀ j, j ≠ 1 → I1 244 j = I 244 j) → I1 244 1 = nI (t + k) → (∀ j, I1 245 j = if t ≤ j ∧ j < t + k then fdB v (j - t) else I 245 j) → ∀ sh, (k < 4 → sh = nI (24 - 8 * k)) → (k = 4 → sh = -8) → zX l G mX6_takeFour 0 0 0 3 [some (.ref 244), some (.int v), some (.int sh)] [] Z I1 Q := by
  intro m
  induction m with
  | zero =>
    intro k I1 hk h1 h2 h3 h4 sh hs1 hs2
    have hk4 : k = 4 := by omega
    subst hk4
    have hs := hs2 rfl
    subst hs
    refine x_ild2 (n := 4) dX6_takeFour_3 rfl ?_
    refine x_if_lt (n := 7) (tgt := 48) dX6_takeFour_4 rfl (by decide) (fun c_4 => ?_) (fun c_4 => ?_)
    · refine r_vret dX6_takeFour_48 rfl ?_
      exact hq I1 h1 h2 h3 h4
    · exact absurd (by decide) c_4
  | succ m ih =>
    intro k I1 hk h1 h2 h3 h4 sh hs1 hs2
    have hs := hs1 (by omega)
    subst hs
    have hb : ((v >>> (nI (24 - 8 * k) &&& 31)) &&& nI 255) = fdB v k := rfl
    refine x_ild2 (n := 4) dX6_takeFour_3 rfl ?_
    refine x_if_lt (n := 7) (tgt := 48) dX6_takeFour_4 rfl (by decide) (fun c_4 => ?_) (fun c_4 => ?_)
    · exact absurd c_4 (by rw [zlt, nI_toInt (by omega), Int32.toInt_zero]; omega)
    · refine x_ald0 (n := 8) dX6_takeFour_7 rfl ?_
      refine x_getI (n := 11) flX6_19 rfl dX6_takeFour_8 rfl (lK_Tp hS) ?_
      rw [h3]
      refine x_bipush (n := 13) (v := nI 96) dX6_takeFour_11 rfl (by decide) ?_
      refine x_icmpN_ge (n := 16) (tgt := 48) dX6_takeFour_13 rfl (by decide) (by omega) (by omega) (fun c_13 => ?_) (fun c_13 => ?_)
      · exact absurd c_13 (by omega)
      · refine x_ald0 (n := 17) dX6_takeFour_16 rfl ?_
        refine x_getR (n := 20) flX6_9 rfl dX6_takeFour_17 rfl (lK_Tp hS) (lP_bytes hS) ?_
        refine x_ald0 (n := 21) dX6_takeFour_20 rfl ?_
        refine x_getI (n := 24) flX6_19 rfl dX6_takeFour_21 rfl (lK_Tp hS) ?_
        rw [h3]
        refine x_ild1 (n := 25) dX6_takeFour_24 rfl ?_
        refine x_ild2 (n := 26) dX6_takeFour_25 rfl ?_
        refine x_ishr (n := 27) dX6_takeFour_26 rfl ?_
        refine x_sipush (n := 30) (v := nI 255) dX6_takeFour_27 rfl (by decide) ?_
        refine x_iand (n := 31) dX6_takeFour_30 rfl ?_
        rw [hb]
        refine x_iastN (n := 32) dX6_takeFour_31 rfl (lA_bytes hS) (Nat.le_of_ble_eq_true rfl) (by omega) ?_
        refine x_ald0 (n := 33) dX6_takeFour_32 rfl ?_
        refine x_dup (n := 34) dX6_takeFour_33 rfl rfl ?_
        refine x_getI (n := 37) flX6_19 rfl dX6_takeFour_34 rfl (lK_Tp hS) ?_
        rw [va_up_off (by omega), h3]
        refine x_ic1 (n := 38) dX6_takeFour_37 rfl ?_
        refine x_iaddN (n := 39) dX6_takeFour_38 rfl ?_
        refine x_putI (n := 42) flX6_19 rfl (Or.inl rfl) rfl rfl dX6_takeFour_39 rfl (lK_Tp hS) ?_
        refine x_iinc2 (n := 45) (v := if k < 3 then nI (24 - 8 * (k + 1)) else -8) dX6_takeFour_42 rfl (by decide) (by by_cases h3k : k < 3; (rw [if_pos h3k]; exact sh8 k h3k); (rw [if_neg h3k, show k = 3 by omega]; decide)) rfl ?_
        refine x_goto (n := 3) dX6_takeFour_45 (by decide) ?_
        refine ih (k + 1) _ (by omega) (fun a a1 a2 => ?_) (fun j hj => ?_) ?_ (fun j => ?_) _ (fun h => if_pos (by omega)) (fun h => if_neg (by omega))
        · rw [va_up_off a1, va_up_off a2]; exact h1 a a1 a2
        · rw [va_up_same, upd_off hj, va_up_off (by omega)]; exact h2 j hj
        · rw [va_up_same, upd_same, Nat.add_assoc]
        · rw [va_up_off (by omega), va_up_same]
          by_cases hj : j = t + k
          · subst hj; rw [upd_same, if_pos (by omega), Nat.add_sub_cancel_left]
          · rw [upd_off hj, h4 j]
            by_cases hjk : t ≤ j ∧ j < t + k
            · rw [if_pos hjk, if_pos (by omega)]
            · rw [if_neg hjk, if_neg (by omega)]
theorem c_X6_takeFour (hS : ShL Z) {v : Int32} {t : Nat} (ht : t + 4 ≤ 96) (h1 : I 244 1 = nI t) (hq : ∀ I', (∀ a, a ≠ 244 → a ≠ 245 → I' a = I a) → (∀ j, j ≠ 1 → I' 244 j = I 244 j) → I' 244 1 = nI (t + 4) → (∀ j, I' 245 j = if t ≤ j ∧ j < t + 4 then fdB v (j - t) else I 245 j) → Q none Z I') : zM l G mX6_takeFour 0 0 0 [.ref 244, .int v] Z I Q := by
  refine x_entry [some (.ref 244), some (.int v), none] 1 rfl rfl (Nat.le_of_ble_eq_true rfl) ?_
  refine x_bipush (n := 2) (v := nI 24) dX6_takeFour_0 rfl (by decide) ?_
  refine x_ist2 (n := 3) dX6_takeFour_2 rfl (by decide) rfl ?_
  exact l_X6_takeFour hS ht hq 4 0 I rfl (fun _ _ _ => rfl) (fun _ _ => rfl) h1 (fun j => (if_neg (by omega)).symm) _ (fun _ => rfl) (fun h => absurd h (by omega))
theorem tL_feed (hS : ShL Z) {t : Nat} {x y z : Int32} (ht : I 244 1 = nI t) (ht2 : t ≤ 96) (hq0 : ¬ t + 12 ≤ 96 → Q (some (.int (-1000000003))) Z I) (hq : t + 12 ≤ 96 → ∀ I', (∀ a, a ≠ 244 → a ≠ 245 → I' a = I a) → (∀ j, j ≠ 1 → I' 244 j = I 244 j) → I' 244 1 = nI (t + 12) → (∀ j, I' 245 j = tpF (I 245) t x y z 12 j) → Q (some (.int (nI (t + 12)))) Z I') : zM l G mX11_feed 1 0 0 [.ref 0, .int x, .int y, .int z] Z I Q := by
  refine x_entry [some (.ref 0), some (.int x), some (.int y), some (.int z)] 0 rfl rfl (Nat.le_of_ble_eq_true rfl) ?_
  refine x_ald0 (n := 1) dX11_feed_0 rfl ?_
  refine x_getR (n := 4) flX11_25 rfl dX11_feed_1 rfl (lK_L hS) (lP_Tp hS) ?_
  refine x_getI (n := 7) flX11_203 rfl dX11_feed_4 rfl (lK_Tp hS) ?_
  rw [ht]
  refine x_bipush (n := 9) (v := nI 12) dX11_feed_7 rfl (by decide) ?_
  refine x_iaddN (n := 10) dX11_feed_9 rfl ?_
  refine x_bipush (n := 12) (v := nI 96) dX11_feed_10 rfl (by decide) ?_
  refine x_icmpN_le (n := 15) (tgt := 18) dX11_feed_12 rfl (by decide) (by omega) (by omega) (fun c_12 => ?_) (fun c_12 => ?_)
  · refine x_ald0 (n := 19) dX11_feed_18 rfl ?_
    refine x_getR (n := 22) flX11_25 rfl dX11_feed_19 rfl (lK_L hS) (lP_Tp hS) ?_
    refine x_ild1 (n := 23) dX11_feed_22 rfl ?_
    refine x_cV1 (n := 26) (d' := 0) zcX6_takeFour mlX11_206 dX11_feed_23 rfl (lK_Tp hS) (Nat.le_of_ble_eq_true rfl) (Nat.le_of_ble_eq_true rfl) ?_
    refine c_X6_takeFour hS (by omega) ht (fun I1 a1 b1 c1 d1 => ?_)
    refine x_none ?_
    refine x_ald0 (n := 27) dX11_feed_26 rfl ?_
    refine x_getR (n := 30) flX11_25 rfl dX11_feed_27 rfl (lK_L hS) (lP_Tp hS) ?_
    refine x_ild2 (n := 31) dX11_feed_30 rfl ?_
    refine x_cV1 (n := 34) (d' := 0) zcX6_takeFour mlX11_206 dX11_feed_31 rfl (lK_Tp hS) (Nat.le_of_ble_eq_true rfl) (Nat.le_of_ble_eq_true rfl) ?_
    refine c_X6_takeFour hS (by omega) c1 (fun I2 a2 b2 c2 d2 => ?_)
    refine x_none ?_
    refine x_ald0 (n := 35) dX11_feed_34 rfl ?_
    refine x_getR (n := 38) flX11_25 rfl dX11_feed_35 rfl (lK_L hS) (lP_Tp hS) ?_
    refine x_ild3 (n := 39) dX11_feed_38 rfl ?_
    refine x_cV1 (n := 42) (d' := 0) zcX6_takeFour mlX11_206 dX11_feed_39 rfl (lK_Tp hS) (Nat.le_of_ble_eq_true rfl) (Nat.le_of_ble_eq_true rfl) ?_
    refine c_X6_takeFour hS (by omega) c2 (fun I3 a3 b3 c3 d3 => ?_)
    refine x_none ?_
    refine x_ald0 (n := 43) dX11_feed_42 rfl ?_
    refine x_getR (n := 46) flX11_25 rfl dX11_feed_43 rfl (lK_L hS) (lP_Tp hS) ?_
    refine x_getI (n := 49) flX11_203 rfl dX11_feed_46 rfl (lK_Tp hS) ?_
    refine r_iret dX11_feed_49 rfl ?_
    rw [c3]
    refine hq (by omega) I3 (fun a h1 h2 => by rw [a3 a h1 h2, a2 a h1 h2, a1 a h1 h2]) (fun j hj => by rw [b3 j hj, b2 j hj, b1 j hj]) c3 (fun j => ?_)
    rw [d3 j, d2 j, d1 j]
    unfold tpF fdV
    by_cases h0 : t ≤ j ∧ j < t + 12
    · rw [if_pos h0]
      by_cases h3 : t + 8 ≤ j
      · rw [if_pos (by omega), if_neg (by omega), if_neg (by omega)]; congr 1; omega
      · rw [if_neg (by omega)]
        by_cases h2 : t + 4 ≤ j
        · rw [if_pos (by omega), if_neg (by omega), if_pos (by omega)]; congr 1; omega
        · rw [if_neg (by omega), if_pos (by omega), if_pos (by omega)]; congr 1; omega
    · rw [if_neg h0, if_neg (by omega), if_neg (by omega), if_neg (by omega)]
  · refine x_ldc (n := 17) dX11_feed_15 rfl kiX11_196 ?_
    refine r_iret dX11_feed_17 rfl ?_
    exact hq0 (by omega)
theorem tL_copy (hS : ShL Z) {t : svS} (hv : svC I t) (hO : svOK t) {x p y q m : Int32} (hq : ∀ I', offV I I' → svC I' (f_copy t x p y q m).2 → Q (some (.int (f_copy t x p y q m).1)) Z I') : zM l G mX11_copy 2 0 0 [.ref 0, .int x, .int p, .int y, .int q, .int m] Z I Q := by
  refine x_entry [some (.ref 0), some (.int x), some (.int p), some (.int y), some (.int q), some (.int m), none, none] 2 rfl rfl (Nat.le_of_ble_eq_true rfl) ?_
  unfold f_copy at hq
  by_cases hx : zin x 0 3 = true
  case neg =>
    rw [if_neg (fun h => hx h.1)] at hq
    by_cases hy : zin y 0 3 = true
    · obtain ⟨c, hc4, hc3, rfl⟩ := z_num 4 hy (by omega)
      refine x_ald0 (n := 1) dX11_copy_0 rfl ?_
      refine x_ild1 (n := 2) dX11_copy_1 rfl ?_
      refine x_cV1 (n := 5) (d' := 1) zcX11_surveyNumbered mlX11_313 dX11_copy_2 rfl (lK_L hS) (Nat.le_of_ble_eq_true rfl) (Nat.le_of_ble_eq_true rfl) ?_
      refine c_X11_surveyNumberedN hS (Bool.eq_false_iff.mpr hx) ?_
      refine x_some ?_
      refine x_nst6 (n := 7) dX11_copy_5 rfl (by decide) rfl ?_
      refine x_ald0 (n := 8) dX11_copy_7 rfl ?_
      refine x_ild3 (n := 9) dX11_copy_8 rfl ?_
      refine x_cV1 (n := 12) (d' := 1) zcX11_surveyNumbered mlX11_313 dX11_copy_9 rfl (lK_L hS) (Nat.le_of_ble_eq_true rfl) (Nat.le_of_ble_eq_true rfl) ?_
      refine c_X11_surveyNumbered hS hc4 ?_
      refine x_some ?_
      refine x_ast7 (n := 14) dX11_copy_12 rfl (by decide) rfl ?_
      refine x_nld6 (n := 16) dX11_copy_14 rfl ?_
      refine x_ifnullN (n := 24) dX11_copy_16 (by decide) ?_
      refine x_ldc (n := 26) dX11_copy_24 rfl kiX11_54 ?_
      refine r_iret dX11_copy_26 rfl ?_
      exact hq I offV_refl hv
    · skip
      refine x_ald0 (n := 1) dX11_copy_0 rfl ?_
      refine x_ild1 (n := 2) dX11_copy_1 rfl ?_
      refine x_cV1 (n := 5) (d' := 1) zcX11_surveyNumbered mlX11_313 dX11_copy_2 rfl (lK_L hS) (Nat.le_of_ble_eq_true rfl) (Nat.le_of_ble_eq_true rfl) ?_
      refine c_X11_surveyNumberedN hS (Bool.eq_false_iff.mpr hx) ?_
      refine x_some ?_
      refine x_nst6 (n := 7) dX11_copy_5 rfl (by decide) rfl ?_
      refine x_ald0 (n := 8) dX11_copy_7 rfl ?_
      refine x_ild3 (n := 9) dX11_copy_8 rfl ?_
      refine x_cV1 (n := 12) (d' := 1) zcX11_surveyNumbered mlX11_313 dX11_copy_9 rfl (lK_L hS) (Nat.le_of_ble_eq_true rfl) (Nat.le_of_ble_eq_true rfl) ?_
      refine c_X11_surveyNumberedN hS (Bool.eq_false_iff.mpr hy) ?_
      refine x_some ?_
      refine x_nst7 (n := 14) dX11_copy_12 rfl (by decide) rfl ?_
      refine x_nld6 (n := 16) dX11_copy_14 rfl ?_
      refine x_ifnullN (n := 24) dX11_copy_16 (by decide) ?_
      refine x_ldc (n := 26) dX11_copy_24 rfl kiX11_54 ?_
      refine r_iret dX11_copy_26 rfl ?_
      exact hq I offV_refl hv
  obtain ⟨a, ha4, ha3, rfl⟩ := z_num 4 hx (by omega)
  by_cases hy : zin y 0 3 = true
  case neg =>
    rw [if_neg (fun h => hy h.2)] at hq
    refine x_ald0 (n := 1) dX11_copy_0 rfl ?_
    refine x_ild1 (n := 2) dX11_copy_1 rfl ?_
    refine x_cV1 (n := 5) (d' := 1) zcX11_surveyNumbered mlX11_313 dX11_copy_2 rfl (lK_L hS) (Nat.le_of_ble_eq_true rfl) (Nat.le_of_ble_eq_true rfl) ?_
    refine c_X11_surveyNumbered hS ha4 ?_
    refine x_some ?_
    refine x_ast6 (n := 7) dX11_copy_5 rfl (by decide) rfl ?_
    refine x_ald0 (n := 8) dX11_copy_7 rfl ?_
    refine x_ild3 (n := 9) dX11_copy_8 rfl ?_
    refine x_cV1 (n := 12) (d' := 1) zcX11_surveyNumbered mlX11_313 dX11_copy_9 rfl (lK_L hS) (Nat.le_of_ble_eq_true rfl) (Nat.le_of_ble_eq_true rfl) ?_
    refine c_X11_surveyNumberedN hS (Bool.eq_false_iff.mpr hy) ?_
    refine x_some ?_
    refine x_nst7 (n := 14) dX11_copy_12 rfl (by decide) rfl ?_
    refine x_ald6 (n := 16) dX11_copy_14 rfl ?_
    refine x_ifnull (n := 19) dX11_copy_16 rfl ?_
    refine x_nld7 (n := 21) dX11_copy_19 rfl ?_
    refine x_ifnonnullN (n := 24) dX11_copy_21 rfl ?_
    refine x_ldc (n := 26) dX11_copy_24 rfl kiX11_54 ?_
    refine r_iret dX11_copy_26 rfl ?_
    exact hq I offV_refl hv
  obtain ⟨c, hc4, hc3, rfl⟩ := z_num 4 hy (by omega)
  rw [if_pos ⟨hx, hy⟩, ix_nI (by omega), ix_nI (by omega)] at hq
  have hVa := lS_V hS ha4
  have hVc := lS_V hS hc4
  obtain ⟨za', z1, z2, z3, z4⟩ := sv_size hv hO ha4
  obtain ⟨zc', y1, y2, y3, y4⟩ := sv_size hv hO hc4
  obtain ⟨a0, a1, a2⟩ := hv a ha4
  obtain ⟨c0, c1, c2⟩ := hv c hc4
  have hra := (hO a ha4).1
  have hrc := (hO c hc4).1
  have em1 : (-1 : Int32).toInt = -1 := by decide
  have n1 : ∀ u : Int32, rg u (-1) 1 → (u = -1 ↔ u < 0) := fun u hu => by rw [zeq, zlt, em1, Int32.toInt_zero]; have := hu.1; omega
  refine x_ald0 (n := 1) dX11_copy_0 rfl ?_
  refine x_ild1 (n := 2) dX11_copy_1 rfl ?_
  refine x_cV1 (n := 5) (d' := 1) zcX11_surveyNumbered mlX11_313 dX11_copy_2 rfl (lK_L hS) (Nat.le_of_ble_eq_true rfl) (Nat.le_of_ble_eq_true rfl) ?_
  refine c_X11_surveyNumbered hS ha4 ?_
  refine x_some ?_
  refine x_ast6 (n := 7) dX11_copy_5 rfl (by decide) rfl ?_
  refine x_ald0 (n := 8) dX11_copy_7 rfl ?_
  refine x_ild3 (n := 9) dX11_copy_8 rfl ?_
  refine x_cV1 (n := 12) (d' := 1) zcX11_surveyNumbered mlX11_313 dX11_copy_9 rfl (lK_L hS) (Nat.le_of_ble_eq_true rfl) (Nat.le_of_ble_eq_true rfl) ?_
  refine c_X11_surveyNumbered hS hc4 ?_
  refine x_some ?_
  refine x_ast7 (n := 14) dX11_copy_12 rfl (by decide) rfl ?_
  refine x_ald6 (n := 16) dX11_copy_14 rfl ?_
  refine x_ifnull (n := 19) dX11_copy_16 rfl ?_
  refine x_ald7 (n := 21) dX11_copy_19 rfl ?_
  refine x_ifnonnull (n := 27) dX11_copy_21 (by decide) ?_
  refine x_ald6 (n := 29) dX11_copy_27 rfl ?_
  refine x_getI (n := 32) flX11_330 rfl dX11_copy_29 rfl hVa.1 ?_
  refine x_icm1 (n := 33) dX11_copy_32 rfl ?_
  rw [a0]
  refine x_icmp_eq (n := 36) (tgt := 45) dX11_copy_33 rfl (by decide) (fun c_33 => ?_) (fun c_33 => ?_)
  · refine x_ldcw (n := 48) dX11_copy_45 rfl kiX11_333 ?_
    refine r_iret dX11_copy_48 rfl ?_
    first | (have hz : t.1 c = -1 := c_42; rw [if_pos (Or.inr ((n1 _ hrc).mp hz))] at hq; exact hq I offV_refl hv) | (have hz : t.1 a = -1 := c_33; rw [if_pos (Or.inl ((n1 _ hra).mp hz))] at hq; exact hq I offV_refl hv)
  · refine x_ald7 (n := 38) dX11_copy_36 rfl ?_
    refine x_getI (n := 41) flX11_330 rfl dX11_copy_38 rfl hVc.1 ?_
    refine x_icm1 (n := 42) dX11_copy_41 rfl ?_
    rw [c0]
    refine x_icmp_ne (n := 45) (tgt := 49) dX11_copy_42 rfl (by decide) (fun c_42 => ?_) (fun c_42 => ?_)
    · rw [if_neg (fun h => h.elim (fun e => c_33 ((n1 _ hra).mpr e)) (fun e => c_42 ((n1 _ hrc).mpr e)))] at hq
      refine x_ald6 (n := 51) dX11_copy_49 rfl ?_
      refine x_getI (n := 54) flX11_330 rfl dX11_copy_51 rfl hVa.1 ?_
      refine x_ald7 (n := 56) dX11_copy_54 rfl ?_
      refine x_getI (n := 59) flX11_330 rfl dX11_copy_56 rfl hVc.1 ?_
      rw [a0, c0]
      refine x_icmp_eq (n := 62) (tgt := 65) dX11_copy_59 rfl (by decide) (fun c_59 => ?_) (fun c_59 => ?_)
      · rw [if_pos c_59] at hq
        refine x_ald6 (n := 67) dX11_copy_65 rfl ?_
        refine x_ild2 (n := 68) dX11_copy_67 rfl ?_
        refine x_ild5 (n := 70) dX11_copy_68 rfl ?_
        refine x_cV2 (n := 73) (d' := 1) zcX5_hasRun mlX11_334 dX11_copy_70 rfl hVa.1 (Nat.le_of_ble_eq_true rfl) (Nat.le_of_ble_eq_true rfl) ?_
        refine c_X5_hasRun hVa z3 z1 ?_
        refine x_some ?_
        refine x_zif_eq (n := 76) (tgt := 88) dX11_copy_73 rfl (by decide) (fun c_73 => ?_) (fun c_73 => ?_)
        · refine x_ldcw (n := 91) dX11_copy_88 rfl kiX11_337 ?_
          refine r_iret dX11_copy_91 rfl ?_
          have hno : cpyOK t (nI a) p (nI c) q m = false := by
            unfold cpyOK
            rw [ix_nI (by omega), ix_nI (by omega), z4, y4]
            refine decide_eq_false ?_
            rintro ⟨h1, h2, h3, h4, h5⟩
            rw [zle, Int32.toInt_zero] at h1 h2 h3
            first
              | (have hz := of_decide_eq_false c_85; exact hz ⟨h3, h2, h5⟩)
              | (have hz := of_decide_eq_false c_73; exact hz ⟨h3, h1, h4⟩)
          rw [if_neg (by rw [hno]; decide)] at hq; exact hq I offV_refl hv
        · refine x_ald7 (n := 78) dX11_copy_76 rfl ?_
          refine x_ild4 (n := 80) dX11_copy_78 rfl ?_
          refine x_ild5 (n := 82) dX11_copy_80 rfl ?_
          refine x_cV2 (n := 85) (d' := 1) zcX5_hasRun mlX11_334 dX11_copy_82 rfl hVc.1 (Nat.le_of_ble_eq_true rfl) (Nat.le_of_ble_eq_true rfl) ?_
          refine c_X5_hasRun hVc y3 y1 ?_
          refine x_some ?_
          refine x_zif_ne (n := 88) (tgt := 92) dX11_copy_85 rfl (by decide) (fun c_85 => ?_) (fun c_85 => ?_)
          · have hr1 := of_decide_eq_true c_73
            have hr2 := of_decide_eq_true c_85
            have hok : cpyOK t (nI a) p (nI c) q m = true := by
              unfold cpyOK
              rw [ix_nI (by omega), ix_nI (by omega), z4, y4]
              refine decide_eq_true ⟨?_, ?_, ?_, hr1.2.2, hr2.2.2⟩ <;> rw [zle, Int32.toInt_zero] <;> omega
            rw [if_pos hok] at hq
            obtain ⟨k, hk, rfl⟩ := z_of (x := p) (n := 25) hr1.2.1 (by omega)
            obtain ⟨j, hj, rfl⟩ := z_of (x := q) (n := 25) hr2.2.1 (by omega)
            obtain ⟨n, hn, rfl⟩ := z_of (x := m) (n := 25) hr1.1 (by omega)
            rw [nI_toInt (by omega), nI_toInt (by omega)] at hr1 hr2
            rw [ix_nI (by omega), ix_nI (by omega), ix_nI (by omega)] at hq
            refine x_ald6 (n := 94) dX11_copy_92 rfl ?_
            refine x_getR (n := 97) flX11_338 rfl dX11_copy_94 rfl hVa.1 hVa.2.1 ?_
            refine x_ild2 (n := 98) dX11_copy_97 rfl ?_
            refine x_ald7 (n := 100) dX11_copy_98 rfl ?_
            refine x_getR (n := 103) flX11_338 rfl dX11_copy_100 rfl hVc.1 hVc.2.1 ?_
            refine x_ild4 (n := 105) dX11_copy_103 rfl ?_
            refine x_ild5 (n := 107) dX11_copy_105 rfl ?_
            refine x_acopyN (n := 110) dX11_copy_107 rfl mlX11_129 zcN zcS zi_J10 (by decide) (Nat.le_of_ble_eq_true rfl) hVa.2.2 hVc.2.2 (by omega) (by omega) (by decide) (by decide) ?_
            refine x_ild5 (n := 112) dX11_copy_110 rfl ?_
            refine r_iret dX11_copy_112 rfl ?_
            refine hq _ (fun u hu => va_up_off (by omega)) (fun u hu => ?_)
            by_cases huc : u = c
            · subst huc
              rw [va_up_off (show 249 + 2 * u ≠ 249 + 2 * u + 1 by omega), va_up_same]
              refine ⟨c0, c1, fun i hi => ?_⟩
              show va_cpy _ _ _ _ _ i = cpN t.2.2 (24 * a + k) (24 * u + j) n (24 * u + i)
              unfold va_cpy cpN
              by_cases hij : j ≤ i ∧ i < j + n
              · rw [if_pos hij, if_pos (by omega), a2 (k + (i - j)) (by omega), show 24 * a + (k + (i - j)) = 24 * a + k + (24 * u + i - (24 * u + j)) by omega]
              · rw [if_neg hij, if_neg (by omega), c2 i hi]
            · rw [va_up_off (by omega), va_up_off (by omega)]
              obtain ⟨r0, r1, r2⟩ := hv u hu
              refine ⟨r0, r1, fun i hi => ?_⟩
              rw [r2 i hi]
              show _ = cpN t.2.2 (24 * a + k) (24 * c + j) n (24 * u + i)
              unfold cpN
              rw [if_neg (by omega)]
          · refine x_ldcw (n := 91) dX11_copy_88 rfl kiX11_337 ?_
            refine r_iret dX11_copy_91 rfl ?_
            have hno : cpyOK t (nI a) p (nI c) q m = false := by
              unfold cpyOK
              rw [ix_nI (by omega), ix_nI (by omega), z4, y4]
              refine decide_eq_false ?_
              rintro ⟨h1, h2, h3, h4, h5⟩
              rw [zle, Int32.toInt_zero] at h1 h2 h3
              first
                | (have hz := of_decide_eq_false c_85; exact hz ⟨h3, h2, h5⟩)
                | (have hz := of_decide_eq_false c_73; exact hz ⟨h3, h1, h4⟩)
            rw [if_neg (by rw [hno]; decide)] at hq; exact hq I offV_refl hv
      · refine x_ldc (n := 64) dX11_copy_62 rfl kiX11_176 ?_
        refine r_iret dX11_copy_64 rfl ?_
        rw [if_neg c_59] at hq; exact hq I offV_refl hv
    · refine x_ldcw (n := 48) dX11_copy_45 rfl kiX11_333 ?_
      refine r_iret dX11_copy_48 rfl ?_
      first | (have hz : t.1 c = -1 := c_42; rw [if_pos (Or.inr ((n1 _ hrc).mp hz))] at hq; exact hq I offV_refl hv) | (have hz : t.1 a = -1 := c_33; rw [if_pos (Or.inl ((n1 _ hra).mp hz))] at hq; exact hq I offV_refl hv)
end
