def f_of (g : Nat → Int32) (x y : Int32) : Int32 := if zin x 0 ((vN g 3 : Int) - 1) = true ∧ zin y 0 2 = true then g (2520 + 200 * ix x + ix y) else -1000000001
def f_why (g : Nat → Int32) (k : Int32) : Int32 := if zin k 0 3 = true then orNone (oI (cntF g k (vN g 3))) else -1000000001
def f_rules (g : Nat → Int32) (k a b c : Int32) : Int32 := if zin k 0 3 = true then gRule g (ix k) a b c else -1000000001
def f_price (g : Nat → Int32) (w : Int32) : Int32 := if zin w 0 ((vN g 1 : Int) - 1) = true then gPrice g (ix w) else -1000000001
section
variable {l : Launch} {G : zG} {Z : zS} {I : zI} {g : Nat → Int32} {Q : Option Value → zS → zI → Prop}
theorem z_numL {x : Int32} {lo hi : Int} (n : Nat) (h : zin x lo hi = true) (h0 : 0 ≤ lo) (hn : hi < n) : ∃ c : Nat, c < n ∧ lo ≤ c ∧ (c : Int) ≤ hi ∧ x = nI c := by
  obtain ⟨a, b⟩ := zin_t h
  have hr := fb_rng0 x
  refine ⟨x.toInt.toNat, by omega, by omega, by omega, Int32.toInt_inj.mp ?_⟩
  rw [nI_toInt (by omega)]
  omega
theorem c_X12_why (hZ : ShR Z) (hB : InvB g) {k : Int32} (hq : Q (some (.int (f_why g k))) Z (va_up I q_s g)) : zM l G mX12_why 2 0 0 [.ref qR, .int k] Z (va_up I q_s g) Q := by
  obtain ⟨h3, h32⟩ := iv3 hB
  refine x_entry [some (.ref qR), some (.int k)] 0 rfl rfl (Nat.le_of_ble_eq_true rfl) ?_
  unfold f_why at hq
  refine x_ild1 (n := 1) dX12_why_0 rfl ?_
  refine x_i2l (n := 2) dX12_why_1 rfl ?_
  refine x_lconst (n := 3) (v := 0) dX12_why_2 rfl (by decide) ?_
  refine x_ldc2 (n := 6) dX12_why_3 rfl klX12_106 ?_
  refine x_cS3 (n := 9) (d' := 0) zcX12_isIn mlX12_89 dX12_why_6 rfl (Nat.le_of_ble_eq_true rfl) (Nat.le_of_ble_eq_true rfl) ?_
  refine c_X12_isIn (zin k 0 3) (by unfold zin; rw [zI64]; rfl) ?_
  refine x_some ?_
  refine x_zif_eq (n := 12) (tgt := 23) dX12_why_9 rfl (by decide) (fun c_9 => ?_) (fun c_9 => ?_)
  · rw [if_neg (by grind)] at hq
    refine x_ldc (n := 25) dX12_why_23 rfl kiX12_100 ?_
    refine r_iret dX12_why_25 rfl ?_
    exact hq
  · rw [if_pos c_9] at hq
    refine x_ald0 (n := 13) dX12_why_12 rfl ?_
    refine x_ild1 (n := 14) dX12_why_13 rfl ?_
    refine x_cV1 (n := 17) (d' := 1) zcX12_counts mlX12_314 dX12_why_14 rfl (rK hZ) (Nat.le_of_ble_eq_true rfl) (Nat.le_of_ble_eq_true rfl) ?_
    refine c_X12_counts hZ h3 h32 ?_
    refine x_some ?_
    refine x_cS1 (n := 20) (d' := 0) zcX12_orNone mlX12_159 dX12_why_17 rfl (Nat.le_of_ble_eq_true rfl) (Nat.le_of_ble_eq_true rfl) ?_
    refine c_X12_orNone ?_
    refine x_some ?_
    refine x_goto (n := 25) dX12_why_20 (by decide) ?_
    refine r_iret dX12_why_25 rfl ?_
    exact hq
theorem c_X12_of (hZ : ShR Z) (hB : InvB g) {x y : Int32} (hq : Q (some (.int (f_of g x y))) Z (va_up I q_s g)) : zM l G mX12_of 2 0 0 [.ref qR, .int x, .int y] Z (va_up I q_s g) Q := by
  have h3 := iv3 hB
  refine x_entry [some (.ref qR), some (.int x), some (.int y)] 0 rfl rfl (Nat.le_of_ble_eq_true rfl) ?_
  unfold f_of at hq
  refine x_ald0 (n := 1) dX12_of_0 rfl ?_
  refine x_ild1 (n := 2) dX12_of_1 rfl ?_
  refine x_cV1 (n := 5) (d' := 1) zcX12_isText mlX12_311 dX12_of_2 rfl (rK hZ) (Nat.le_of_ble_eq_true rfl) (Nat.le_of_ble_eq_true rfl) ?_
  refine c_X12_isText hZ h3.1 (by omega) ?_
  refine x_some ?_
  refine x_zif_eq (n := 8) (tgt := 35) dX12_of_5 rfl (by decide) (fun c_5 => ?_) (fun c_5 => ?_)
  · rw [if_neg (by grind)] at hq
    refine x_ldc (n := 37) dX12_of_35 rfl kiX12_100 ?_
    refine r_iret dX12_of_37 rfl ?_
    exact hq
  · refine x_ild2 (n := 9) dX12_of_8 rfl ?_
    refine x_i2l (n := 10) dX12_of_9 rfl ?_
    refine x_lconst (n := 11) (v := 0) dX12_of_10 rfl (by decide) ?_
    refine x_ldc2 (n := 14) dX12_of_11 rfl klX12_96 ?_
    refine x_cS3 (n := 17) (d' := 0) zcX12_isIn mlX12_89 dX12_of_14 rfl (Nat.le_of_ble_eq_true rfl) (Nat.le_of_ble_eq_true rfl) ?_
    refine c_X12_isIn (zin y 0 2) (by unfold zin; rw [zI64]; rfl) ?_
    refine x_some ?_
    refine x_zif_eq (n := 20) (tgt := 35) dX12_of_17 rfl (by decide) (fun c_17 => ?_) (fun c_17 => ?_)
    · rw [if_neg (by grind)] at hq
      refine x_ldc (n := 37) dX12_of_35 rfl kiX12_100 ?_
      refine r_iret dX12_of_37 rfl ?_
      exact hq
    · rw [if_pos ⟨c_5, c_17⟩] at hq
      obtain ⟨c, hc, rfl⟩ := z_chain c_5
      obtain ⟨j, hj, hj2, rfl⟩ := z_num 3 c_17 (by omega)
      rw [ix_nI (by omega), ix_nI (by omega)] at hq
      refine x_ald0 (n := 21) dX12_of_20 rfl ?_
      refine x_getR (n := 24) flX12_7 rfl dX12_of_21 rfl (rK hZ) (rP_s hZ) ?_
      refine x_ald0 (n := 25) dX12_of_24 rfl ?_
      refine x_ild1 (n := 26) dX12_of_25 rfl ?_
      refine x_cV1 (n := 29) (d' := 0) zcX12_textAt mlX12_302 dX12_of_26 rfl (rK hZ) (Nat.le_of_ble_eq_true rfl) (Nat.le_of_ble_eq_true rfl) ?_
      refine c_X12_textAt ?_
      refine x_some ?_
      refine x_ild2 (n := 30) dX12_of_29 rfl ?_
      refine x_iaddN (n := 31) dX12_of_30 rfl ?_
      refine x_sld (n := 32) dX12_of_31 rfl hZ (by omega) ?_
      refine x_goto (n := 37) dX12_of_32 (by decide) ?_
      refine r_iret dX12_of_37 rfl ?_
      exact hq
theorem c_X12_rules (hZ : ShR Z) (hB : InvB g) (hT : InvT g) {k a b c : Int32} (hq : ∀ I' : zI, offR I I' → Q (some (.int (f_rules g k a b c))) Z (va_up I' q_s g)) : zM l G mX12_rules 3 0 0 [.ref qR, .int k, .int a, .int b, .int c] Z (va_up I q_s g) Q := by
  refine x_entry [some (.ref qR), some (.int k), some (.int a), some (.int b), some (.int c)] 0 rfl rfl (Nat.le_of_ble_eq_true rfl) ?_
  unfold f_rules at hq
  refine x_ild1 (n := 1) dX12_rules_0 rfl ?_
  refine x_i2l (n := 2) dX12_rules_1 rfl ?_
  refine x_lconst (n := 3) (v := 0) dX12_rules_2 rfl (by decide) ?_
  refine x_ldc2 (n := 6) dX12_rules_3 rfl klX12_106 ?_
  refine x_cS3 (n := 9) (d' := 0) zcX12_isIn mlX12_89 dX12_rules_6 rfl (Nat.le_of_ble_eq_true rfl) (Nat.le_of_ble_eq_true rfl) ?_
  refine c_X12_isIn (zin k 0 3) (by unfold zin; rw [zI64]; rfl) ?_
  refine x_some ?_
  refine x_zif_eq (n := 12) (tgt := 24) dX12_rules_9 rfl (by decide) (fun c_9 => ?_) (fun c_9 => ?_)
  · rw [if_neg (by grind)] at hq
    refine x_ldc (n := 26) dX12_rules_24 rfl kiX12_100 ?_
    refine r_iret dX12_rules_26 rfl ?_
    first | exact hq _ hI' | exact hq _ (offR_refl I)
  · rw [if_pos c_9] at hq
    obtain ⟨j, hj, hj2, rfl⟩ := z_num 4 c_9 (by omega)
    rw [ix_nI (by omega)] at hq
    refine x_ald0 (n := 13) dX12_rules_12 rfl ?_
    refine x_ild1 (n := 14) dX12_rules_13 rfl ?_
    refine x_ild2 (n := 15) dX12_rules_14 rfl ?_
    refine x_ild3 (n := 16) dX12_rules_15 rfl ?_
    refine x_ild4 (n := 18) dX12_rules_16 rfl ?_
    refine x_cV4 (n := 21) (d' := 2) zcX12_ruleOf mlX12_193 dX12_rules_18 rfl (rK hZ) (Nat.le_of_ble_eq_true rfl) (Nat.le_of_ble_eq_true rfl) ?_
    refine c_X12_ruleOf hZ hB hT hj (fun I' hI' => ?_)
    refine x_some ?_
    refine x_goto (n := 26) dX12_rules_21 (by decide) ?_
    refine r_iret dX12_rules_26 rfl ?_
    first | exact hq _ hI' | exact hq _ (offR_refl I)
theorem c_X12_priceOf (hZ : ShR Z) (hB : InvB g) (hT : InvT g) {w : Nat} (hw : w < vN g 1) (hq : ∀ I' : zI, offR I I' → Q (some (.int (gPrice g w))) Z (va_up I' q_s g)) : zM l G mX12_priceOf 3 0 0 [.ref qR, .int (nI w)] Z (va_up I q_s g) Q := by
  have h1 := iv1 hB
  have h0 := iv0 hB
  obtain ⟨-, hc, -⟩ := ivW hB hw
  have ec := rg_nI hc (by omega) (by omega)
  have lc := rg_le hc (by omega)
  refine x_entry [some (.ref qR), some (.int (nI w))] 0 rfl rfl (Nat.le_of_ble_eq_true rfl) ?_
  refine x_ald0 (n := 1) dX12_priceOf_0 rfl ?_
  refine x_ic0 (n := 2) dX12_priceOf_1 rfl ?_
  refine x_ald0 (n := 3) dX12_priceOf_2 rfl ?_
  refine x_ild1 (n := 4) dX12_priceOf_3 rfl ?_
  refine x_cV1 (n := 7) (d' := 1) zcX12_kindOf mlX12_114 dX12_priceOf_4 rfl (rK hZ) (Nat.le_of_ble_eq_true rfl) (Nat.le_of_ble_eq_true rfl) ?_
  refine c_X12_kindOf hZ (by omega) ?_
  refine x_some ?_
  refine x_ald0 (n := 8) dX12_priceOf_7 rfl ?_
  refine x_ald0 (n := 9) dX12_priceOf_8 rfl ?_
  refine x_getR (n := 12) flX12_7 rfl dX12_priceOf_9 rfl (rK hZ) (rP_s hZ) ?_
  refine x_ald0 (n := 13) dX12_priceOf_12 rfl ?_
  refine x_ild1 (n := 14) dX12_priceOf_13 rfl ?_
  refine x_cV1 (n := 17) (d' := 0) zcX12_workAt mlX12_93 dX12_priceOf_14 rfl (rK hZ) (Nat.le_of_ble_eq_true rfl) (Nat.le_of_ble_eq_true rfl) ?_
  refine c_X12_workAt ?_
  refine x_some ?_
  refine x_ic1 (n := 18) dX12_priceOf_17 rfl ?_
  refine x_iaddN (n := 19) dX12_priceOf_18 rfl ?_
  refine x_sld (n := 20) dX12_priceOf_19 rfl hZ (by omega) ?_
  rw [ec]
  refine x_cV1 (n := 23) (d' := 1) zcX12_depth mlX12_117 dX12_priceOf_20 rfl (rK hZ) (Nat.le_of_ble_eq_true rfl) (Nat.le_of_ble_eq_true rfl) ?_
  refine c_X12_depth hZ (by omega) ?_
  refine x_some ?_
  refine x_ald0 (n := 24) dX12_priceOf_23 rfl ?_
  refine x_ild1 (n := 25) dX12_priceOf_24 rfl ?_
  refine x_cV1 (n := 28) (d' := 2) zcX12_worthOf mlX12_168 dX12_priceOf_25 rfl (rK hZ) (Nat.le_of_ble_eq_true rfl) (Nat.le_of_ble_eq_true rfl) ?_
  refine c_X12_worthOf hZ hB hw ?_
  refine x_some ?_
  refine x_cV4 (n := 31) (d' := 2) zcX12_ruleOf mlX12_193 dX12_priceOf_28 rfl (rK hZ) (Nat.le_of_ble_eq_true rfl) (Nat.le_of_ble_eq_true rfl) ?_
  refine c_X12_ruleOf hZ hB hT (key := 0) (by omega) (fun I' hI' => ?_)
  refine x_some ?_
  refine r_iret dX12_priceOf_31 rfl ?_
  exact hq _ hI'
theorem c_X12_price (hZ : ShR Z) (hB : InvB g) (hT : InvT g) {x : Int32} (hq : ∀ I' : zI, offR I I' → Q (some (.int (f_price g x))) Z (va_up I' q_s g)) : zM l G mX12_price 4 0 0 [.ref qR, .int x] Z (va_up I q_s g) Q := by
  have h1 := iv1 hB
  refine x_entry [some (.ref qR), some (.int x)] 0 rfl rfl (Nat.le_of_ble_eq_true rfl) ?_
  unfold f_price at hq
  refine x_ald0 (n := 1) dX12_price_0 rfl ?_
  refine x_ild1 (n := 2) dX12_price_1 rfl ?_
  refine x_cV1 (n := 5) (d' := 1) zcX12_isWork mlX12_156 dX12_price_2 rfl (rK hZ) (Nat.le_of_ble_eq_true rfl) (Nat.le_of_ble_eq_true rfl) ?_
  refine c_X12_isWork hZ h1.1 (by omega) ?_
  refine x_some ?_
  refine x_zif_eq (n := 8) (tgt := 16) dX12_price_5 rfl (by decide) (fun c_5 => ?_) (fun c_5 => ?_)
  · rw [if_neg (by grind)] at hq
    refine x_ldc (n := 18) dX12_price_16 rfl kiX12_100 ?_
    refine r_iret dX12_price_18 rfl ?_
    first | exact hq _ hI' | exact hq _ (offR_refl I)
  · rw [if_pos c_5] at hq
    obtain ⟨c, hc, rfl⟩ := z_chain c_5
    rw [ix_nI (by omega)] at hq
    refine x_ald0 (n := 9) dX12_price_8 rfl ?_
    refine x_ild1 (n := 10) dX12_price_9 rfl ?_
    refine x_cV1 (n := 13) (d' := 3) zcX12_priceOf mlX12_190 dX12_price_10 rfl (rK hZ) (Nat.le_of_ble_eq_true rfl) (Nat.le_of_ble_eq_true rfl) ?_
    refine c_X12_priceOf hZ hB hT hc (fun I' hI' => ?_)
    refine x_some ?_
    refine x_goto (n := 18) dX12_price_13 (by decide) ?_
    refine r_iret dX12_price_18 rfl ?_
    first | exact hq _ hI' | exact hq _ (offR_refl I)
theorem c_X12_pays (hZ : ShR Z) (hB : InvB g) (hT : InvT g) {w : Nat} (hw : w < vN g 1) (hq : ∀ I' : zI, offR I I' → Q none Z (va_up I' q_s (gPay g w))) : zM l G mX12_pays 4 0 0 [.ref qR, .int (nI w)] Z (va_up I q_s g) Q := by
  have h1 := iv1 hB
  refine x_entry [some (.ref qR), some (.int (nI w)), none, none, none, none] 4 rfl rfl (Nat.le_of_ble_eq_true rfl) ?_
  unfold gPay at hq
  refine x_ald0 (n := 1) dX12_pays_0 rfl ?_
  refine x_ild1 (n := 2) dX12_pays_1 rfl ?_
  refine x_cV1 (n := 5) (d' := 0) zcX12_workAt mlX12_93 dX12_pays_2 rfl (rK hZ) (Nat.le_of_ble_eq_true rfl) (Nat.le_of_ble_eq_true rfl) ?_
  refine c_X12_workAt ?_
  refine x_some ?_
  refine x_ist2 (n := 6) dX12_pays_5 rfl (by decide) rfl ?_
  refine x_ald0 (n := 7) dX12_pays_6 rfl ?_
  refine x_ild1 (n := 8) dX12_pays_7 rfl ?_
  refine x_cV1 (n := 11) (d' := 1) zcX12_joinedOf mlX12_171 dX12_pays_8 rfl (rK hZ) (Nat.le_of_ble_eq_true rfl) (Nat.le_of_ble_eq_true rfl) ?_
  refine c_X12_joinedOf hZ (by omega) ?_
  refine x_some ?_
  refine x_ald0 (n := 12) dX12_pays_11 rfl ?_
  refine x_getR (n := 15) flX12_7 rfl dX12_pays_12 rfl (rK hZ) (rP_s hZ) ?_
  refine x_ild2 (n := 16) dX12_pays_15 rfl ?_
  refine x_bipush (n := 18) (v := nI 9) dX12_pays_16 rfl (by decide) ?_
  refine x_iaddN (n := 19) dX12_pays_18 rfl ?_
  refine x_sld (n := 20) dX12_pays_19 rfl hZ (by omega) ?_
  refine x_isub (n := 21) dX12_pays_20 rfl ?_
  refine x_ist3 (n := 22) dX12_pays_21 rfl (by decide) rfl ?_
  refine x_ild3 (n := 23) dX12_pays_22 rfl ?_
  refine x_if_le (n := 26) (tgt := 103) dX12_pays_23 rfl (by decide) (fun c_23 => ?_) (fun c_23 => ?_)
  · rw [if_pos (show (gJoin g w - g (120 + 10 * w + 9)).toInt ≤ 0 from Int32.le_iff_toInt_le.mp c_23)] at hq
    refine r_vret dX12_pays_103 rfl ?_
    exact hq I (offR_refl I)
  · rw [if_neg (fun h : (gJoin g w - g (120 + 10 * w + 9)).toInt ≤ 0 => c_23 (Int32.le_iff_toInt_le.mpr h))] at hq
    refine x_ild3 (n := 27) dX12_pays_26 rfl ?_
    refine x_ald0 (n := 28) dX12_pays_27 rfl ?_
    refine x_ild1 (n := 29) dX12_pays_28 rfl ?_
    refine x_cV1 (n := 32) (d' := 3) zcX12_priceOf mlX12_190 dX12_pays_29 rfl (rK hZ) (Nat.le_of_ble_eq_true rfl) (Nat.le_of_ble_eq_true rfl) ?_
    refine c_X12_priceOf hZ hB hT hw (fun I1 hI1 => ?_)
    refine x_some ?_
    refine x_imul (n := 33) dX12_pays_32 rfl ?_
    refine x_ist4 (n := 35) dX12_pays_33 rfl (by decide) rfl ?_
    refine x_ild4 (n := 37) dX12_pays_35 rfl ?_
    refine x_ald0 (n := 38) dX12_pays_37 rfl ?_
    refine x_ic1 (n := 39) dX12_pays_38 rfl ?_
    refine x_ald0 (n := 40) dX12_pays_39 rfl ?_
    refine x_getR (n := 43) flX12_7 rfl dX12_pays_40 rfl (rK hZ) (rP_s hZ) ?_
    refine x_ild2 (n := 44) dX12_pays_43 rfl ?_
    refine x_sld (n := 45) dX12_pays_44 rfl hZ (by omega) ?_
    refine x_ald0 (n := 46) dX12_pays_45 rfl ?_
    refine x_getR (n := 49) flX12_7 rfl dX12_pays_46 rfl (rK hZ) (rP_s hZ) ?_
    refine x_ild2 (n := 50) dX12_pays_49 rfl ?_
    refine x_ic2 (n := 51) dX12_pays_50 rfl ?_
    refine x_iaddN (n := 52) dX12_pays_51 rfl ?_
    refine x_sld (n := 53) dX12_pays_52 rfl hZ (by omega) ?_
    refine x_ic0 (n := 54) dX12_pays_53 rfl ?_
    refine x_cV4 (n := 57) (d' := 2) zcX12_ruleOf mlX12_193 dX12_pays_54 rfl (rK hZ) (Nat.le_of_ble_eq_true rfl) (Nat.le_of_ble_eq_true rfl) ?_
    refine c_X12_ruleOf hZ hB hT (key := 1) (by omega) (fun I2 hI2 => ?_)
    refine x_some ?_
    refine x_imul (n := 58) dX12_pays_57 rfl ?_
    refine x_bipush (n := 60) (v := nI 100) dX12_pays_58 rfl (by decide) ?_
    refine x_idiv (n := 61) dX12_pays_60 rfl (by decide) ?_
    refine x_ist5 (n := 63) dX12_pays_61 rfl (by decide) rfl ?_
    refine x_ald0 (n := 64) dX12_pays_63 rfl ?_
    refine x_getR (n := 67) flX12_7 rfl dX12_pays_64 rfl (rK hZ) (rP_s hZ) ?_
    refine x_bipush (n := 69) (v := nI 9) dX12_pays_67 rfl (by decide) ?_
    refine x_dup2 (n := 70) dX12_pays_69 rfl rfl rfl ?_
    refine x_sld (n := 71) dX12_pays_70 rfl hZ (by omega) ?_
    refine x_ild4 (n := 73) dX12_pays_71 rfl ?_
    refine x_ild5 (n := 75) dX12_pays_73 rfl ?_
    refine x_isub (n := 76) dX12_pays_75 rfl ?_
    refine x_isub (n := 77) dX12_pays_76 rfl ?_
    refine x_sst (n := 78) dX12_pays_77 rfl hZ (by omega) ?_
    refine x_ald0 (n := 79) dX12_pays_78 rfl ?_
    refine x_getR (n := 82) flX12_7 rfl dX12_pays_79 rfl (rK hZ) (rP_s hZ) ?_
    refine x_bipush (n := 84) (v := nI 10) dX12_pays_82 rfl (by decide) ?_
    refine x_dup2 (n := 85) dX12_pays_84 rfl rfl rfl ?_
    refine x_sld (n := 86) dX12_pays_85 rfl hZ (by omega) ?_
    rw [upd_off (by omega)]
    refine x_ild5 (n := 88) dX12_pays_86 rfl ?_
    refine x_iadd (n := 89) dX12_pays_88 rfl ?_
    refine x_sst (n := 90) dX12_pays_89 rfl hZ (by omega) ?_
    refine x_ald0 (n := 91) dX12_pays_90 rfl ?_
    refine x_getR (n := 94) flX12_7 rfl dX12_pays_91 rfl (rK hZ) (rP_s hZ) ?_
    refine x_ild2 (n := 95) dX12_pays_94 rfl ?_
    refine x_bipush (n := 97) (v := nI 9) dX12_pays_95 rfl (by decide) ?_
    refine x_iaddN (n := 98) dX12_pays_97 rfl ?_
    refine x_dup2 (n := 99) dX12_pays_98 rfl rfl rfl ?_
    refine x_sld (n := 100) dX12_pays_99 rfl hZ (by omega) ?_
    rw [upd_off (by omega), upd_off (by omega)]
    refine x_ild3 (n := 101) dX12_pays_100 rfl ?_
    refine x_iadd (n := 102) dX12_pays_101 rfl ?_
    refine x_sst (n := 103) dX12_pays_102 rfl hZ (by omega) ?_
    refine r_vret dX12_pays_103 rfl ?_
    exact hq I2 (offR_tr hI1 hI2)
theorem zLab (hB : InvB g) (hT : InvT g) : ∀ k, k ≤ vN g 2 → InvB (zit gLab g k) ∧ InvT (zit gLab g k) ∧ ∀ i, (i < 120 ∨ 360 ≤ i) → zit gLab g k i = g i
  | 0, _ => ⟨hB, hT, fun _ _ => rfl⟩
  | k + 1, hk => by
    obtain ⟨a, b, c⟩ := zLab hB hT k (by omega)
    have e2 : vN (zit gLab g k) 2 = vN g 2 := vN_eq (c 2 (by omega))
    have off : ∀ i, (i < 120 ∨ 360 ≤ i) → gLab (zit gLab g k) k i = zit gLab g k i := fun i hi => gLab_off k hi a (by omega)
    exact ⟨gLab_inv a (by omega), InvT_off (off 3 (by omega)) (fun i hi => off i (by omega)) b, fun i hi => (off i hi).trans (c i hi)⟩
theorem zSlip (hB : InvB g) (hT : InvT g) : ∀ k, k ≤ vN g 0 → InvB (zit gSlip g k) ∧ InvT (zit gSlip g k) ∧ ∀ i, i ≠ 1 → (i < 120 ∨ 360 ≤ i) → zit gSlip g k i = g i
  | 0, _ => ⟨hB, hT, fun _ _ _ => rfl⟩
  | k + 1, hk => by
    obtain ⟨a, b, c⟩ := zSlip hB hT k (by omega)
    have e2 : vN (zit gSlip g k) 0 = vN g 0 := vN_eq (c 0 (by omega) (by omega))
    have off : ∀ i, i ≠ 1 → (i < 120 ∨ 360 ≤ i) → gSlip (zit gSlip g k) k i = zit gSlip g k i := fun i h1 hi => gSlip_off h1 hi
    exact ⟨gSlip_inv a (by omega), InvT_off (off 3 (by omega) (by omega)) (fun i hi => off i (by omega) (by omega)) b, fun i h1 hi => (off i h1 hi).trans (c i h1 hi)⟩
theorem zPay (hB : InvB g) (hT : InvT g) : ∀ k, k ≤ vN g 1 → InvB (zit gPay g k) ∧ InvT (zit gPay g k) ∧ ∀ i, i ≠ 9 → i ≠ 10 → (i < 120 ∨ 360 ≤ i) → zit gPay g k i = g i
  | 0, _ => ⟨hB, hT, fun _ _ _ _ => rfl⟩
  | k + 1, hk => by
    obtain ⟨a, b, c⟩ := zPay hB hT k (by omega)
    have h24 := (iv1 hB).2
    have e2 : vN (zit gPay g k) 1 = vN g 1 := vN_eq (c 1 (by omega) (by omega) (by omega))
    have off : ∀ i, i ≠ 9 → i ≠ 10 → (i < 120 ∨ 360 ≤ i) → gPay (zit gPay g k) k i = zit gPay g k i := fun i h9 h10 hi => gPay_off h9 h10 hi (by omega)
    exact ⟨gPay_inv a (by omega), InvT_off (off 3 (by omega) (by omega) (by omega)) (fun i hi => off i (by omega) (by omega) (by omega)) b, fun i h9 h10 hi => (off i h9 h10 hi).trans (c i h9 h10 hi)⟩
theorem gDay1_ok (hB : InvB g) (hT : InvT g) : InvB (gDay1 g) ∧ InvT (gDay1 g) ∧ ∀ i, (i < 120 ∨ 360 ≤ i) → gDay1 g i = g i := zLab hB hT (vN g 2) (by omega)
theorem gDay2_ok (hB : InvB g) (hT : InvT g) : InvB (gDay2 g) ∧ InvT (gDay2 g) ∧ ∀ i, i ≠ 1 → (i < 120 ∨ 360 ≤ i) → gDay2 g i = g i := by
  obtain ⟨a, b, c⟩ := gDay1_ok hB hT
  have e0 : vN (gDay1 g) 0 = vN g 0 := vN_eq (c 0 (by omega))
  obtain ⟨a2, b2, c2⟩ := zSlip a b (vN g 0) (by omega)
  exact ⟨a2, b2, fun i h1 hi => (c2 i h1 hi).trans (c i hi)⟩
theorem gDay3_ok (hB : InvB g) (hT : InvT g) : InvB (gDay3 g) ∧ InvT (gDay3 g) ∧ ∀ i, i ≠ 1 → i ≠ 9 → (i < 120 ∨ 360 ≤ i) → gDay3 g i = g i := by
  obtain ⟨a, b, c⟩ := gDay2_ok hB hT
  exact ⟨InvB_coin a (Or.inl rfl), InvT_upd b (by omega) (by omega), fun i h1 h9 hi => (upd_off h9).trans (c i h1 hi)⟩
theorem gDay4_ok (hB : InvB g) (hT : InvT g) : InvB (gDay4 g) ∧ InvT (gDay4 g) ∧ ∀ i, i ≠ 1 → i ≠ 9 → i ≠ 10 → (i < 120 ∨ 360 ≤ i) → gDay4 g i = g i := by
  obtain ⟨a, b, c⟩ := gDay3_ok hB hT
  unfold gDay4
  split
  · obtain ⟨a2, b2, c2⟩ := zPay a b (vN (gDay3 g) 1) (by omega)
    exact ⟨a2, b2, fun i h1 h9 h10 hi => (c2 i h9 h10 hi).trans (c i h1 h9 hi)⟩
  · exact ⟨a, b, fun i h1 h9 h10 hi => c i h1 h9 hi⟩
theorem InvB_day (hB : InvB g) {n : Nat} (hn : n ≤ 2100) : InvB (upd g 8 (nI n)) := by
  obtain ⟨⟨a0, a1, a2, a3, a4, a5, a6, a7, a8⟩, b, c, d, e, f, k, l, m, nn, o⟩ := hB
  have h : ∀ i, i ≠ 8 → upd g 8 (nI n) i = g i := fun i hi => upd_off hi
  unfold InvB
  rw [vN_eq (h 0 (by omega)), vN_eq (h 1 (by omega)), vN_eq (h 2 (by omega)), vN_eq (h 4 (by omega)), vN_eq (h 5 (by omega)), vN_eq (h 6 (by omega)), vN_eq (h 7 (by omega)), h 0 (by omega), h 1 (by omega), h 2 (by omega), h 3 (by omega), h 4 (by omega), h 5 (by omega), h 6 (by omega), h 7 (by omega), upd_same]
  refine ⟨⟨a0, a1, a2, a3, a4, a5, a6, a7, rg_n (by omega) (by omega) (by omega)⟩, ?_, ?_, ?_, ?_, ?_, ?_, ?_, ?_, ?_, ?_⟩
  · intro j hj; rw [h _ (by omega)]; exact b j hj
  · intro j hj
    unfold chainOK
    rw [h _ (by omega), h _ (by omega), h _ (by omega), h _ (by omega)]; exact c j hj
  · intro w hw; exact workOK_off (h 0 (by omega)) (h 2 (by omega)) (fun j _ => h _ (by omega)) (d w hw)
  · intro j hj; rw [h _ (by omega), h _ (by omega)]; exact e j hj
  · intro w j hw hj; rw [h _ (by omega), h _ (by omega)]; exact f w j hw hj
  · intro j hj; rw [h _ (by omega), h _ (by omega), h _ (by omega)]; exact k j hj
  · intro j hj; rw [h _ (by omega)]; exact l j hj
  · intro j hj; rw [h _ (by omega), h _ (by omega)]; exact m j hj
  · intro j hj; rw [h _ (by omega)]; exact nn j hj
  · intro j hj; rw [h _ (by omega)]; exact o j hj
theorem gDay_ok (hB : InvB g) (hT : InvT g) (h8 : vN g 8 < 2100) : InvB (gDay g) ∧ InvT (gDay g) ∧ vN (gDay g) 8 = vN g 8 + 1 := by
  obtain ⟨a, b, c⟩ := gDay4_ok hB hT
  exact ⟨InvB_day a (by omega), InvT_upd b (by omega) (by omega), vN_nI upd_same (by omega)⟩
theorem l1_X12_oneDay (hZ : ShR Z) (hC : RfC I) (hB : InvB g) (hT : InvT g) (hx : zX l G mX12_oneDay 5 0 0 23 [some (.ref qR), none] [] Z (va_up I q_s (gDay1 g)) Q) : ∀ m k, k ≤ vN g 2 → vN g 2 - k < m → zX l G mX12_oneDay 5 0 0 2 [some (.ref qR), some (.int (nI k))] [] Z (va_up I q_s (zit gLab g k)) Q := by
  intro m
  induction m with
  | zero => intro k _ h; exact absurd h (by omega)
  | succ m ih =>
    intro k hk hm
    obtain ⟨a, b, c⟩ := zLab hB hT k hk
    have h2 := iv2 hB
    have e2 : zit gLab g k 2 = nI (vN g 2) := (c 2 (by omega)).trans h2.1
    have ek := ih (k + 1)
    refine x_ild1 (n := 3) dX12_oneDay_2 rfl ?_
    refine x_ald0 (n := 4) dX12_oneDay_3 rfl ?_
    refine x_getR (n := 7) flX12_7 rfl dX12_oneDay_4 rfl (rK hZ) (rP_s hZ) ?_
    refine x_ic2 (n := 8) dX12_oneDay_7 rfl ?_
    refine x_sld (n := 9) dX12_oneDay_8 rfl hZ (by omega) ?_
    rw [e2]
    refine x_icmpN_ge (n := 12) (tgt := 23) dX12_oneDay_9 rfl (by decide) (by omega) (by omega) (fun c_9 => ?_) (fun c_9 => ?_)
    · refine x_fg1 ?_
      rw [show k = vN g 2 by omega]
      exact hx
    · refine x_ald0 (n := 13) dX12_oneDay_12 rfl ?_
      refine x_ild1 (n := 14) dX12_oneDay_13 rfl ?_
      refine x_cV1 (n := 17) (d' := 3) zcX12_works mlX12_197 dX12_oneDay_14 rfl (rK hZ) (Nat.le_of_ble_eq_true rfl) (Nat.le_of_ble_eq_true rfl) ?_
      refine c_X12_works hZ hC a (by rw [vN_eq (c 2 (by omega))]; omega) ?_
      refine x_none ?_
      refine x_iincN1 (n := 20) (k := 1) dX12_oneDay_17 rfl (by decide) rfl ?_
      refine x_goto (n := 2) dX12_oneDay_20 (by decide) ?_
      exact ek (by omega) (by omega)
theorem l2_X12_oneDay (hZ : ShR Z) (hC : RfC I) (hB : InvB g) (hT : InvT g) {g0 : Nat → Int32} (h0 : vN g0 0 = vN g 0) (hx : zX l G mX12_oneDay 5 0 0 46 [some (.ref qR), none] [] Z (va_up I q_s (zit gSlip g (vN g 0))) Q) : ∀ m k, k ≤ vN g 0 → vN g 0 - k < m → zX l G mX12_oneDay 5 0 0 25 [some (.ref qR), some (.int (nI k))] [] Z (va_up I q_s (zit gSlip g k)) Q := by
  intro m
  induction m with
  | zero => intro k _ h; exact absurd h (by omega)
  | succ m ih =>
    intro k hk hm
    obtain ⟨a, b, c⟩ := zSlip hB hT k hk
    have h2 := iv0 hB
    have e2 : zit gSlip g k 0 = nI (vN g 0) := (c 0 (by omega) (by omega)).trans h2.1
    have ek := ih (k + 1)
    refine x_ild1 (n := 26) dX12_oneDay_25 rfl ?_
    refine x_ald0 (n := 27) dX12_oneDay_26 rfl ?_
    refine x_getR (n := 30) flX12_7 rfl dX12_oneDay_27 rfl (rK hZ) (rP_s hZ) ?_
    refine x_ic0 (n := 31) dX12_oneDay_30 rfl ?_
    refine x_sld (n := 32) dX12_oneDay_31 rfl hZ (by omega) ?_
    rw [e2]
    refine x_icmpN_ge (n := 35) (tgt := 46) dX12_oneDay_32 rfl (by decide) (by omega) (by omega) (fun c_32 => ?_) (fun c_32 => ?_)
    · refine x_fg1 ?_
      rw [show k = vN g 0 by omega]
      exact hx
    · refine x_ald0 (n := 36) dX12_oneDay_35 rfl ?_
      refine x_ild1 (n := 37) dX12_oneDay_36 rfl ?_
      refine x_cV1 (n := 40) (d' := 4) zcX12_slips mlX12_200 dX12_oneDay_37 rfl (rK hZ) (Nat.le_of_ble_eq_true rfl) (Nat.le_of_ble_eq_true rfl) ?_
      refine c_X12_slips hZ hC a (by rw [vN_eq (c 0 (by omega) (by omega))]; omega) ?_
      refine x_none ?_
      refine x_iincN1 (n := 43) (k := 1) dX12_oneDay_40 rfl (by decide) rfl ?_
      refine x_goto (n := 25) dX12_oneDay_43 (by decide) ?_
      exact ek (by omega) (by omega)
theorem l3_X12_oneDay (hZ : ShR Z) (hB : InvB g) (hT : InvT g) (h28 : (vN g 8 + 1) % 28 = 0) (hx : ∀ I' : zI, offR I I' → zX l G mX12_oneDay 5 0 0 105 [some (.ref qR), none] [] Z (va_up I' q_s (zit gPay g (vN g 1))) Q) : ∀ m k (I' : zI), offR I I' → k ≤ vN g 1 → vN g 1 - k < m → zX l G mX12_oneDay 5 0 0 69 [some (.ref qR), some (.int (nI k))] [] Z (va_up I' q_s (zit gPay g k)) Q := by
  intro m
  induction m with
  | zero => intro k I' _ _ h; exact absurd h (by omega)
  | succ m ih =>
    intro k I' hI hk hm
    obtain ⟨a, b, c⟩ := zPay hB hT k hk
    have h1 := iv1 hB
    have h8 := iv8 hB
    have e1 : zit gPay g k 1 = nI (vN g 1) := (c 1 (by omega) (by omega) (by omega)).trans h1.1
    have e8 : zit gPay g k 8 = nI (vN g 8) := (c 8 (by omega) (by omega) (by omega)).trans h8.1
    have ek := fun I2 hI2 => ih (k + 1) I2 hI2
    refine x_ild1 (n := 70) dX12_oneDay_69 rfl ?_
    refine x_ald0 (n := 71) dX12_oneDay_70 rfl ?_
    refine x_getR (n := 74) flX12_7 rfl dX12_oneDay_71 rfl (rK hZ) (rP_s hZ) ?_
    refine x_ic1 (n := 75) dX12_oneDay_74 rfl ?_
    refine x_sld (n := 76) dX12_oneDay_75 rfl hZ (by omega) ?_
    rw [e1]
    refine x_icmpN_ge (n := 79) (tgt := 105) dX12_oneDay_76 rfl (by decide) (by omega) (by omega) (fun c_76 => ?_) (fun c_76 => ?_)
    · refine x_fg1 ?_
      rw [show k = vN g 1 by omega]
      exact hx I' hI
    · refine x_ald0 (n := 80) dX12_oneDay_79 rfl ?_
      refine x_getR (n := 83) flX12_7 rfl dX12_oneDay_80 rfl (rK hZ) (rP_s hZ) ?_
      refine x_bipush (n := 85) (v := nI 8) dX12_oneDay_83 rfl (by decide) ?_
      refine x_sld (n := 86) dX12_oneDay_85 rfl hZ (by omega) ?_
      rw [e8]
      refine x_ic1 (n := 87) dX12_oneDay_86 rfl ?_
      refine x_iaddN (n := 88) dX12_oneDay_87 rfl ?_
      refine x_bipush (n := 90) (v := nI 28) dX12_oneDay_88 rfl (by decide) ?_
      refine x_irem (n := 91) dX12_oneDay_90 rfl (by decide) ?_
      rw [pk_rem (by omega) (by omega) (by omega), h28]
      refine x_if_ne (n := 94) (tgt := 105) dX12_oneDay_91 rfl (by decide) (fun c_91 => ?_) (fun c_91 => ?_)
      · exact absurd rfl c_91
      · refine x_ald0 (n := 95) dX12_oneDay_94 rfl ?_
        refine x_ild1 (n := 96) dX12_oneDay_95 rfl ?_
        refine x_cV1 (n := 99) (d' := 4) zcX12_pays mlX12_206 dX12_oneDay_96 rfl (rK hZ) (Nat.le_of_ble_eq_true rfl) (Nat.le_of_ble_eq_true rfl) ?_
        refine c_X12_pays hZ a b (by rw [vN_eq (c 1 (by omega) (by omega) (by omega))]; omega) (fun I2 hI2 => ?_)
        refine x_none ?_
        refine x_iincN1 (n := 102) (k := 1) dX12_oneDay_99 rfl (by decide) rfl ?_
        refine x_goto (n := 69) dX12_oneDay_102 (by decide) ?_
        exact ek I2 (offR_tr hI hI2) (by omega) (by omega)
theorem c_X12_oneDay (hZ : ShR Z) (hC : RfC I) (hB : InvB g) (hT : InvT g) (h8 : vN g 8 < 2100) (hq : ∀ I' : zI, offR I I' → Q none Z (va_up I' q_s (gDay g))) : zM l G mX12_oneDay 5 0 0 [.ref qR] Z (va_up I q_s g) Q := by
  refine x_entry [some (.ref qR), none] 1 rfl rfl (Nat.le_of_ble_eq_true rfl) ?_
  obtain ⟨a1, b1, c1⟩ := gDay1_ok hB hT
  obtain ⟨a2, b2, c2⟩ := gDay2_ok hB hT
  obtain ⟨a3, b3, c3⟩ := gDay3_ok hB hT
  obtain ⟨a4, b4, c4⟩ := gDay4_ok hB hT
  have e0 : vN (gDay1 g) 0 = vN g 0 := vN_eq (c1 0 (by omega))
  have e8g := iv8 hB
  have last : ∀ I' : zI, offR I I' → zX l G mX12_oneDay 5 0 0 105 [some (.ref qR), none] [] Z (va_up I' q_s (gDay4 g)) Q := by
    intro I' hI'
    have e8 : gDay4 g 8 = nI (vN g 8) := (c4 8 (by omega) (by omega) (by omega) (by omega)).trans e8g.1
    refine x_ald0 (n := 106) dX12_oneDay_105 rfl ?_
    refine x_getR (n := 109) flX12_7 rfl dX12_oneDay_106 rfl (rK hZ) (rP_s hZ) ?_
    refine x_bipush (n := 111) (v := nI 8) dX12_oneDay_109 rfl (by decide) ?_
    refine x_dup2 (n := 112) dX12_oneDay_111 rfl rfl rfl ?_
    refine x_sld (n := 113) dX12_oneDay_112 rfl hZ (by omega) ?_
    rw [e8]
    refine x_ic1 (n := 114) dX12_oneDay_113 rfl ?_
    refine x_iaddN (n := 115) dX12_oneDay_114 rfl ?_
    refine x_sst (n := 116) dX12_oneDay_115 rfl hZ (by omega) ?_
    refine r_vret dX12_oneDay_116 rfl ?_
    exact hq I' hI'
  have third : zX l G mX12_oneDay 5 0 0 69 [some (.ref qR), some (.int (nI 0))] [] Z (va_up I q_s (gDay3 g)) Q := by
    have e8v : vN (gDay3 g) 8 = vN g 8 := vN_eq (c3 8 (by omega) (by omega) (by omega))
    by_cases h28 : (vN g 8 + 1) % 28 = 0
    · refine l3_X12_oneDay hZ a3 b3 (by rw [e8v]; exact h28) (fun I' hI' => ?_) (vN (gDay3 g) 1 + 1) 0 I (offR_refl I) (by omega) (by omega)
      have := last I' hI'
      unfold gDay4 at this
      rw [if_pos h28] at this
      exact this
    · have h1 := iv1 a3
      have e8 : gDay3 g 8 = nI (vN g 8) := (c3 8 (by omega) (by omega) (by omega)).trans e8g.1
      have last2 := last I (offR_refl I)
      unfold gDay4 at last2
      rw [if_neg h28] at last2
      refine x_ild1 (n := 70) dX12_oneDay_69 rfl ?_
      refine x_ald0 (n := 71) dX12_oneDay_70 rfl ?_
      refine x_getR (n := 74) flX12_7 rfl dX12_oneDay_71 rfl (rK hZ) (rP_s hZ) ?_
      refine x_ic1 (n := 75) dX12_oneDay_74 rfl ?_
      refine x_sld (n := 76) dX12_oneDay_75 rfl hZ (by omega) ?_
      rw [h1.1]
      refine x_icmpN_ge (n := 79) (tgt := 105) dX12_oneDay_76 rfl (by decide) (by omega) (by omega) (fun c_76 => ?_) (fun c_76 => ?_)
      · exact x_fg1 last2
      · refine x_ald0 (n := 80) dX12_oneDay_79 rfl ?_
        refine x_getR (n := 83) flX12_7 rfl dX12_oneDay_80 rfl (rK hZ) (rP_s hZ) ?_
        refine x_bipush (n := 85) (v := nI 8) dX12_oneDay_83 rfl (by decide) ?_
        refine x_sld (n := 86) dX12_oneDay_85 rfl hZ (by omega) ?_
        rw [e8]
        refine x_ic1 (n := 87) dX12_oneDay_86 rfl ?_
        refine x_iaddN (n := 88) dX12_oneDay_87 rfl ?_
        refine x_bipush (n := 90) (v := nI 28) dX12_oneDay_88 rfl (by decide) ?_
        refine x_irem (n := 91) dX12_oneDay_90 rfl (by decide) ?_
        rw [pk_rem (by omega) (by omega) (by omega)]
        refine x_if_ne (n := 94) (tgt := 105) dX12_oneDay_91 rfl (by decide) (fun c_91 => ?_) (fun c_91 => ?_)
        · exact x_fg1 last2
        · exact absurd ((nI_eq (b := 0) (by omega) (by omega)).mp c_91) h28
  refine x_ic0 (n := 1) dX12_oneDay_0 rfl ?_
  refine x_ist1 (n := 2) dX12_oneDay_1 rfl (by decide) rfl ?_
  refine l1_X12_oneDay hZ hC hB hT ?_ (vN g 2 + 1) 0 (by omega) (by omega)
  refine x_ic0 (n := 24) dX12_oneDay_23 rfl ?_
  refine x_ist1 (n := 25) dX12_oneDay_24 rfl (by decide) rfl ?_
  refine l2_X12_oneDay (g0 := g) hZ hC a1 b1 e0.symm ?_ (vN (gDay1 g) 0 + 1) 0 (by omega) (by omega)
  rw [e0]
  have h5 := iv5 a2
  show zX l G mX12_oneDay 5 0 0 46 [some (.ref qR), none] [] Z (va_up I q_s (gDay2 g)) Q
  refine x_ald0 (n := 47) dX12_oneDay_46 rfl ?_
  refine x_getR (n := 50) flX12_7 rfl dX12_oneDay_47 rfl (rK hZ) (rP_s hZ) ?_
  refine x_bipush (n := 52) (v := nI 9) dX12_oneDay_50 rfl (by decide) ?_
  refine x_dup2 (n := 53) dX12_oneDay_52 rfl rfl rfl ?_
  refine x_sld (n := 54) dX12_oneDay_53 rfl hZ (by omega) ?_
  refine x_ald0 (n := 55) dX12_oneDay_54 rfl ?_
  refine x_ald0 (n := 56) dX12_oneDay_55 rfl ?_
  refine x_getR (n := 59) flX12_7 rfl dX12_oneDay_56 rfl (rK hZ) (rP_s hZ) ?_
  refine x_bipush (n := 61) (v := nI 8) dX12_oneDay_59 rfl (by decide) ?_
  refine x_sld (n := 62) dX12_oneDay_61 rfl hZ (by omega) ?_
  refine x_cV1 (n := 65) (d' := 0) zcX12_duesOn mlX12_203 dX12_oneDay_62 rfl (rK hZ) (Nat.le_of_ble_eq_true rfl) (Nat.le_of_ble_eq_true rfl) ?_
  refine c_X12_duesOn hZ h5.1 h5.2 ?_
  refine x_some ?_
  refine x_iadd (n := 66) dX12_oneDay_65 rfl ?_
  refine x_sst (n := 67) dX12_oneDay_66 rfl hZ (by omega) ?_
  refine x_ic0 (n := 68) dX12_oneDay_67 rfl ?_
  refine x_ist1 (n := 69) dX12_oneDay_68 rfl (by decide) rfl ?_
  exact third
theorem gDays_ok (hB : InvB g) (hT : InvT g) : ∀ n, vN g 8 + n ≤ 2100 → InvB (gDays g n) ∧ InvT (gDays g n) ∧ vN (gDays g n) 8 = vN g 8 + n
  | 0, _ => ⟨hB, hT, rfl⟩
  | n + 1, h => by
    obtain ⟨a, b, c⟩ := gDays_ok hB hT n (by omega)
    obtain ⟨a2, b2, c2⟩ := gDay_ok a b (by omega)
    exact ⟨a2, b2, by rw [show vN (gDays g (n + 1)) 8 = vN (gDay (gDays g n)) 8 from rfl, c2, c]; omega⟩
theorem l_X12_run (hZ : ShR Z) (hC : RfC I) (hB : InvB g) (hT : InvT g) {n : Nat} (hn : vN g 8 + n ≤ 1999) (hq : ∀ I' : zI, offR I I' → Q (some (.int (nI (vN g 8 + n)))) Z (va_up I' q_s (gDays g n))) : ∀ m k (I' : zI), offR I I' → k ≤ n → n - k < m → zX l G mX12_run 6 0 0 35 [some (.ref qR), some (.int (nI n)), some (.int (nI k))] [] Z (va_up I' q_s (gDays g k)) Q := by
  intro m
  induction m with
  | zero => intro k I' _ _ h; exact absurd h (by omega)
  | succ m ih =>
    intro k I' hI hk hm
    obtain ⟨a, b, c⟩ := gDays_ok hB hT k (by omega)
    have ek := fun I2 hI2 => ih (k + 1) I2 hI2
    have e8 := iv8 a
    refine x_ild2 (n := 36) dX12_run_35 rfl ?_
    refine x_ild1 (n := 37) dX12_run_36 rfl ?_
    refine x_icmpN_ge (n := 40) (tgt := 50) dX12_run_37 rfl (by decide) (by omega) (by omega) (fun c_37 => ?_) (fun c_37 => ?_)
    · refine x_ald0 (n := 51) dX12_run_50 rfl ?_
      refine x_getR (n := 54) flX12_7 rfl dX12_run_51 rfl (rK hZ) (rP_s hZ) ?_
      refine x_bipush (n := 56) (v := nI 8) dX12_run_54 rfl (by decide) ?_
      refine x_sld (n := 57) dX12_run_56 rfl hZ (by omega) ?_
      rw [e8.1, c]
      refine r_iret dX12_run_57 rfl ?_
      have hkn : k = n := by omega
      subst hkn
      exact hq I' hI
    · refine x_ald0 (n := 41) dX12_run_40 rfl ?_
      refine x_cV0 (n := 44) (d' := 5) zcX12_oneDay mlX12_211 dX12_run_41 rfl (rK hZ) (Nat.le_of_ble_eq_true rfl) (Nat.le_of_ble_eq_true rfl) ?_
      refine c_X12_oneDay hZ (offR_C hI hC) a b (by omega) (fun I2 hI2 => ?_)
      refine x_none ?_
      refine x_iincN2 (n := 47) (k := 1) dX12_run_44 rfl (by decide) rfl ?_
      refine x_goto (n := 35) dX12_run_47 (by decide) ?_
      exact ek I2 (offR_tr hI hI2) (by omega) (by omega)
theorem c_X12_run (hZ : ShR Z) (hC : RfC I) (hB : InvB g) (hT : InvT g) {x : Int32} (hq : ∀ I' : zI, offR I I' → Q (some (.int (f_run g x).1)) Z (va_up I' q_s (f_run g x).2)) : zM l G mX12_run 6 0 0 [.ref qR, .int x] Z (va_up I q_s g) Q := by
  refine x_entry [some (.ref qR), some (.int x), none] 1 rfl rfl (Nat.le_of_ble_eq_true rfl) ?_
  unfold f_run at hq
  have e8 := iv8 hB
  refine x_ild1 (n := 1) dX12_run_0 rfl ?_
  refine x_i2l (n := 2) dX12_run_1 rfl ?_
  refine x_lconst (n := 3) (v := 1) dX12_run_2 rfl (by decide) ?_
  refine x_ldc2 (n := 6) dX12_run_3 rfl klX12_209 ?_
  refine x_cS3 (n := 9) (d' := 0) zcX12_isIn mlX12_89 dX12_run_6 rfl (Nat.le_of_ble_eq_true rfl) (Nat.le_of_ble_eq_true rfl) ?_
  refine c_X12_isIn (zin x 1 60) (by unfold zin; rw [zI64]; rfl) ?_
  refine x_some ?_
  refine x_zif_ne (n := 12) (tgt := 15) dX12_run_9 rfl (by decide) (fun c_9 => ?_) (fun c_9 => ?_)
  · rw [if_pos c_9] at hq
    obtain ⟨n, hn, hn1, hn2, rfl⟩ := z_numL 61 c_9 (by omega) (by omega)
    rw [ix_nI (by omega)] at hq
    refine x_ald0 (n := 16) dX12_run_15 rfl ?_
    refine x_getR (n := 19) flX12_7 rfl dX12_run_16 rfl (rK hZ) (rP_s hZ) ?_
    refine x_bipush (n := 21) (v := nI 8) dX12_run_19 rfl (by decide) ?_
    refine x_sld (n := 22) dX12_run_21 rfl hZ (by omega) ?_
    rw [e8.1]
    refine x_ild1 (n := 23) dX12_run_22 rfl ?_
    refine x_iaddN (n := 24) dX12_run_23 rfl ?_
    refine x_sipush (n := 27) (v := nI 1999) dX12_run_24 rfl (by decide) ?_
    refine x_icmpN_le (n := 30) (tgt := 33) dX12_run_27 rfl (by decide) (by omega) (by omega) (fun c_27 => ?_) (fun c_27 => ?_)
    · rw [if_neg (by omega)] at hq
      refine x_ic0 (n := 34) dX12_run_33 rfl ?_
      refine x_ist2 (n := 35) dX12_run_34 rfl (by decide) rfl ?_
      exact l_X12_run hZ hC hB hT (by omega) hq (n + 1) 0 I (offR_refl I) (by omega) (by omega)
    · refine x_ldc (n := 32) dX12_run_30 rfl kiX12_149 ?_
      refine r_iret dX12_run_32 rfl ?_
      rw [if_pos (by omega)] at hq
      exact hq I (offR_refl I)
  · refine x_ldc (n := 14) dX12_run_12 rfl kiX12_100 ?_
    refine r_iret dX12_run_14 rfl ?_
    rw [if_neg (by grind)] at hq
    exact hq I (offR_refl I)
end
