section
variable {l : Launch} {G : zG} {Z : zS} {I I' : zI} {g g' : Nat → Int32} {mk b : Nat} {Q : Option Value → zS → zI → Prop}
/-- scratch: the stack and the grants -/
def off70 (mk : Nat) (I I' : zI) : Prop := ∀ a, a ≠ mk + 65 → a ≠ mk + 70 → I' a = I a
def grK (g : Nat → Int32) (f : Nat → Int32) (K : Nat) : Prop := ∀ c w, c < 4 → w < 10 → c * 10 + w < K → f (c * 10 + w) = gRule g 3 (nI c) (nI w) (nI 0)
theorem CM70 (h : CM Z I mk g) (hI : off70 mk I I') (hm : mk < 200) : CM Z I' mk g := CM_of h (fun a ha => hI a (fun e => ha (by subst e; unfold cmOff; omega)) (fun e => ha (by subst e; unfold cmOff; omega))) hm
theorem l1_X2_givenDays (hM : ShM Z mk) (hm : mk < 200) (hC : CM Z I mk g) (hB : InvB g) (hT : InvT g) {x y : Int32} {c : Nat} (hc : c < 4) (kk : ∀ I1, off70 mk I I1 → grK g (I1 (mk + 70)) ((c + 1) * 10) → zX l G mX2_givenDays 4 0 0 54 [some (.ref mk), some (.int x), some (.int y), some (.int (nI c)), none] [] Z I1 Q) :
    ∀ m w I1, off70 mk I I1 → grK g (I1 (mk + 70)) (c * 10 + w) → w ≤ 10 → 10 - w < m → zX l G mX2_givenDays 4 0 0 10 [some (.ref mk), some (.int x), some (.int y), some (.int (nI c)), some (.int (nI w))] [] Z I1 Q := by
  intro m
  induction m with
  | zero => intro w I1 _ _ _ h; exact absurd h (by omega)
  | succ m ih =>
    intro w I1 hO hK hw hmm
    have hC1 := CM70 hC hO hm
    refine x_ild4 (n := 12) dX2_givenDays_10 rfl ?_
    refine x_bipush (n := 14) (v := nI 10) dX2_givenDays_12 rfl (by decide) ?_
    refine x_icmpN_ge (n := 17) (tgt := 54) dX2_givenDays_14 rfl (by decide) (by omega) (by omega) (fun c_14 => ?_) (fun c_14 => ?_)
    · refine x_fg4 (kk I1 hO ?_)
      rw [show (c + 1) * 10 = c * 10 + w by omega]; exact hK
    · refine x_ald0 (n := 18) dX2_givenDays_17 rfl ?_
      refine x_getR (n := 21) flX2_35 rfl dX2_givenDays_18 rfl (mK_M hM) (mP_Cl hM) ?_
      refine x_getR (n := 24) flX2_163 rfl dX2_givenDays_21 rfl (mK_Cl hM) (mP_grants hM) ?_
      refine x_ild3 (n := 25) dX2_givenDays_24 rfl ?_
      refine x_bipush (n := 27) (v := nI 10) dX2_givenDays_25 rfl (by decide) ?_
      refine x_imulN (n := 28) dX2_givenDays_27 rfl ?_
      refine x_ild4 (n := 30) dX2_givenDays_28 rfl ?_
      refine x_iaddN (n := 31) dX2_givenDays_30 rfl ?_
      refine x_ald0 (n := 32) dX2_givenDays_31 rfl ?_
      refine x_getR (n := 35) flX2_28 rfl dX2_givenDays_32 rfl (mK_M hM) (mP_Ts hM) ?_
      refine x_ic3 (n := 36) dX2_givenDays_35 rfl ?_
      refine x_ald0 (n := 37) dX2_givenDays_36 rfl ?_
      refine x_getI (n := 40) flX2_82 rfl dX2_givenDays_37 rfl (mK_M hM) ?_
      refine x_ild3 (n := 41) dX2_givenDays_40 rfl ?_
      refine x_ild4 (n := 43) dX2_givenDays_41 rfl ?_
      refine x_ic0 (n := 44) dX2_givenDays_43 rfl ?_
      rw [hC1.2.2.2.2.2.2.2.1]
      refine x_cV5 (n := 47) (d' := 2) zcX8_ruling mlX2_144 dX2_givenDays_44 rfl (mK_Ts hM) (Nat.le_of_ble_eq_true rfl) (Nat.le_of_ble_eq_true rfl) ?_
      refine c_X8_ruling hM hm hC1.2.2.2.1 hB hT (by omega) (fun I2 hI2 => ?_)
      refine x_some ?_
      refine x_iastN (n := 48) dX2_givenDays_47 rfl (mA_grants hM) (Nat.le_of_ble_eq_true rfl) (by omega) ?_
      refine x_iincN4 (n := 51) (k := 1) dX2_givenDays_48 rfl (by decide) rfl ?_
      refine x_goto (n := 10) dX2_givenDays_51 (by decide) ?_
      refine ih (w + 1) _ (fun a a1 a2 => ?_) (fun c' w' h1 h2 h3 => ?_) (by omega) (by omega)
      · rw [va_up_off a2, hI2 a a1]; exact hO a a1 a2
      · rw [va_up_same]
        by_cases h : c' * 10 + w' = c * 10 + w
        · rw [h, upd_same, show c' = c by omega, show w' = w by omega]
        · rw [upd_off h, hI2 _ (by omega)]; exact hK c' w' h1 h2 (by omega)
theorem l2_X2_givenDays (hM : ShM Z mk) (hm : mk < 200) (hC : CM Z I mk g) (hB : InvB g) (hT : InvT g) {F E : Nat} {L : Int32} (hF : F < 1000) (hE : L.toInt + 1 = (E : Int)) (hE2 : E ≤ vN g 4) (hq : ∀ I', offM mk I I' → CM Z I' mk g → Q (some (.int (nI (zsum (gvS g F) E)))) Z I') :
    ∀ m c I1, off70 mk I I1 → grK g (I1 (mk + 70)) (c * 10) → c ≤ 4 → 4 - c < m → zX l G mX2_givenDays 4 0 0 2 [some (.ref mk), some (.int (nI F)), some (.int L), some (.int (nI c)), none] [] Z I1 Q := by
  intro m
  induction m with
  | zero => intro w I1 _ _ _ h; exact absurd h (by omega)
  | succ m ih =>
    intro c I1 hO hK hc hmm
    have hC1 := CM70 hC hO hm
    refine x_ild3 (n := 3) dX2_givenDays_2 rfl ?_
    refine x_ic4 (n := 4) dX2_givenDays_3 rfl ?_
    refine x_icmpN_ge (n := 7) (tgt := 60) dX2_givenDays_4 rfl (by decide) (by omega) (by omega) (fun c_4 => ?_) (fun c_4 => ?_)
    · refine x_ald0 (n := 61) dX2_givenDays_60 rfl ?_
      refine x_getR (n := 64) flX2_35 rfl dX2_givenDays_61 rfl (mK_M hM) (mP_Cl hM) ?_
      refine x_ild1 (n := 65) dX2_givenDays_64 rfl ?_
      refine x_ild2 (n := 66) dX2_givenDays_65 rfl ?_
      refine x_ald0 (n := 67) dX2_givenDays_66 rfl ?_
      refine x_getR (n := 70) flX2_53 rfl dX2_givenDays_67 rfl (mK_M hM) (mP_wetness hM) ?_
      refine x_cV3 (n := 73) (d' := 3) zcX0_daysGiven mlX2_166 dX2_givenDays_70 rfl (mK_Cl hM) (Nat.le_of_ble_eq_true rfl) (Nat.le_of_ble_eq_true rfl) ?_
      refine c_X0_daysGiven hM hm hB hF hE hE2 hC1.2.2.2.2.1 hC1.2.2.2.2.2.2.2 (fun c' w' h1 h2 => hK c' w' h1 h2 (by omega)) (fun f => ?_)
      refine x_some ?_
      refine r_iret dX2_givenDays_73 rfl ?_
      refine hq _ (offM_up (fun a ha => hO a (by omega) (by omega)) (by omega) (by omega)) (CM_up hC1 (by unfold cmOff; omega) hm)
    · refine x_ic0 (n := 8) dX2_givenDays_7 rfl ?_
      refine x_ist4 (n := 10) dX2_givenDays_8 rfl (by decide) rfl ?_
      refine l1_X2_givenDays hM hm hC hB hT (by omega) (fun I2 hO2 hK2 => ?_) (10 + 1) 0 I1 hO hK (by omega) (by omega)
      refine x_iincN3 (n := 57) (k := 1) dX2_givenDays_54 rfl (by decide) rfl ?_
      refine x_goto (n := 2) dX2_givenDays_57 (by decide) ?_
      exact ih (c + 1) I2 hO2 hK2 (by omega) (by omega)
theorem c_X2_givenDays (hM : ShM Z mk) (hm : mk < 200) (hC : CM Z I mk g) (hB : InvB g) (hT : InvT g) {F E : Nat} {L : Int32} (hF : F < 1000) (hE : L.toInt + 1 = (E : Int)) (hE2 : E ≤ vN g 4) (hq : ∀ I', offM mk I I' → CM Z I' mk g → Q (some (.int (nI (zsum (gvS g F) E)))) Z I') : zM l G mX2_givenDays 4 0 0 [.ref mk, .int (nI F), .int L] Z I Q := by
  refine x_entry [some (.ref mk), some (.int (nI F)), some (.int L), none, none] 2 rfl rfl (Nat.le_of_ble_eq_true rfl) ?_
  refine x_ic0 (n := 1) dX2_givenDays_0 rfl ?_
  refine x_ist3 (n := 2) dX2_givenDays_1 rfl (by decide) rfl ?_
  exact l2_X2_givenDays hM hm hC hB hT hF hE hE2 hq (4 + 1) 0 I (fun _ _ _ => rfl) (fun c w _ _ h => absurd h (by omega)) (by omega) (by omega)
theorem c_X2_passDay (hM : ShM Z mk) (hm : mk < 200) (hC : CM Z I mk g) (hB : InvB g) (hT : InvT g) (h8 : vN g 8 < 2100) (hq : ∀ I', offM mk I I' → CM Z I' mk (gDay g) → Q none Z I') : zM l G mX2_passDay 5 0 0 [.ref mk] Z I Q := by
  refine x_entry [some (.ref mk)] 0 rfl rfl (Nat.le_of_ble_eq_true rfl) ?_
  obtain ⟨b1, t1, o1⟩ := gDay1_ok hB hT
  obtain ⟨b2, t2, o2⟩ := gDay2_ok hB hT
  obtain ⟨b3, t3, o3⟩ := gDay3_ok hB hT
  have e18 : gDay1 g 8 = g 8 := o1 8 (by omega)
  have e28 : gDay2 g 8 = g 8 := o2 8 (by omega) (by omega)
  have e38 : gDay3 g 8 = g 8 := o3 8 (by omega) (by omega) (by omega)
  have hwt : gWet (gDay1 g) (vN (gDay1 g) 8) = gWet g (vN g 8) := gWet_of o1
  have last : ∀ I4, offM mk I I4 → CM Z I4 mk (gDay4 g) → zX l G mX2_passDay 5 0 0 77 [some (.ref mk)] [] Z I4 Q := by
    intro I4 hO4 hC4
    obtain ⟨b4, t4, o4⟩ := gDay4_ok hB hT
    have e48 : gDay4 g 8 = g 8 := o4 8 (by omega) (by omega) (by omega) (by omega)
    have d4 : I4 mk 7 = nI (vN g 8) := by rw [hC4.2.2.2.2.2.2.2.1, e48]; exact (iv8 hB).1
    refine x_ald0 (n := 78) dX2_passDay_77 rfl ?_
    refine x_dup (n := 79) dX2_passDay_78 rfl rfl ?_
    refine x_getI (n := 82) flX2_82 rfl dX2_passDay_79 rfl (mK_M hM) ?_
    rw [d4]
    refine x_ic1 (n := 83) dX2_passDay_82 rfl ?_
    refine x_iaddN (n := 84) dX2_passDay_83 rfl ?_
    refine x_putI (n := 87) flX2_82 rfl (Or.inl rfl) rfl rfl dX2_passDay_84 rfl (mK_M hM) ?_
    refine r_vret dX2_passDay_87 rfl ?_
    refine hq _ (offM_up hO4 (by omega) (by omega)) ?_
    exact CM_day hC4 hm
  refine x_ald0 (n := 1) dX2_passDay_0 rfl ?_
  refine x_getR (n := 4) flX2_21 rfl dX2_passDay_1 rfl (mK_M hM) (mP_Ws hM) ?_
  refine x_ald0 (n := 5) dX2_passDay_4 rfl ?_
  refine x_getR (n := 8) flX2_12 rfl dX2_passDay_5 rfl (mK_M hM) (mP_Gr hM) ?_
  refine x_ald0 (n := 9) dX2_passDay_8 rfl ?_
  refine x_ald0 (n := 10) dX2_passDay_9 rfl ?_
  refine x_getI (n := 13) flX2_82 rfl dX2_passDay_10 rfl (mK_M hM) ?_
  rw [vD8 hC.2.2.2.2.2.2.2 hB]
  refine x_cV1 (n := 16) (d' := 1) zcX2_wetOn mlX2_90 dX2_passDay_13 rfl (mK_M hM) (Nat.le_of_ble_eq_true rfl) (Nat.le_of_ble_eq_true rfl) ?_
  refine c_X2_wetOn hM hC.2.2.2.2.2.2.2 (by omega) ?_
  refine x_some ?_
  refine x_cV2 (n := 19) (d' := 3) zcX10_labour mlX2_94 dX2_passDay_16 rfl (mK_Ws hM) (Nat.le_of_ble_eq_true rfl) (Nat.le_of_ble_eq_true rfl) ?_
  refine c_X10_labour hM hC hB hm (fun I1 hO1 hC1 => ?_)
  refine x_none ?_
  refine x_ald0 (n := 20) dX2_passDay_19 rfl ?_
  refine x_getR (n := 23) flX2_21 rfl dX2_passDay_20 rfl (mK_M hM) (mP_Ws hM) ?_
  refine x_ald0 (n := 24) dX2_passDay_23 rfl ?_
  refine x_getR (n := 27) flX2_12 rfl dX2_passDay_24 rfl (mK_M hM) (mP_Gr hM) ?_
  refine x_ald0 (n := 28) dX2_passDay_27 rfl ?_
  refine x_ald0 (n := 29) dX2_passDay_28 rfl ?_
  refine x_getI (n := 32) flX2_82 rfl dX2_passDay_29 rfl (mK_M hM) ?_
  rw [vD8 hC1.2.2.2.2.2.2.2 b1]
  refine x_cV1 (n := 35) (d' := 1) zcX2_wetOn mlX2_90 dX2_passDay_32 rfl (mK_M hM) (Nat.le_of_ble_eq_true rfl) (Nat.le_of_ble_eq_true rfl) ?_
  refine c_X2_wetOn hM hC1.2.2.2.2.2.2.2 (by rw [vN_eq e18]; omega) ?_
  refine x_some ?_
  refine x_cV2 (n := 38) (d' := 4) zcX10_slipWhereSteep mlX2_98 dX2_passDay_35 rfl (mK_Ws hM) (Nat.le_of_ble_eq_true rfl) (Nat.le_of_ble_eq_true rfl) ?_
  refine c_X10_slipWhereSteep hM hC1 b1 hm (fun I2 hO2 hC2' => ?_)
  have hC2 : CM Z I2 mk (gDay2 g) := by unfold gDay2; rw [← vN_eq (o1 0 (by omega))]; exact hC2'
  refine x_none ?_
  refine x_ald0 (n := 39) dX2_passDay_38 rfl ?_
  refine x_getR (n := 42) flX2_42 rfl dX2_passDay_39 rfl (mK_M hM) (mP_Pu hM) ?_
  refine x_dup (n := 43) dX2_passDay_42 rfl rfl ?_
  refine x_getI (n := 46) flX2_101 rfl dX2_passDay_43 rfl (mK_Pu hM) ?_
  refine x_ald0 (n := 47) dX2_passDay_46 rfl ?_
  refine x_getR (n := 50) flX2_42 rfl dX2_passDay_47 rfl (mK_M hM) (mP_Pu hM) ?_
  refine x_ald0 (n := 51) dX2_passDay_50 rfl ?_
  refine x_getI (n := 54) flX2_82 rfl dX2_passDay_51 rfl (mK_M hM) ?_
  rw [hC2.2.2.2.2.2.2.2.1, hC2.2.2.2.2.2.1.2.1]
  refine x_cV1 (n := 57) (d' := 0) zcX4_duesOn mlX2_104 dX2_passDay_54 rfl (mK_Pu hM) (Nat.le_of_ble_eq_true rfl) (Nat.le_of_ble_eq_true rfl) ?_
  refine c_X4_duesOn hM hC2.2.2.2.2.2.1 b2 ?_
  refine x_some ?_
  refine x_iadd (n := 58) dX2_passDay_57 rfl ?_
  refine x_putI (n := 61) flX2_101 rfl (Or.inl rfl) rfl rfl dX2_passDay_58 rfl (mK_Pu hM) ?_
  have hC3 : CM Z (va_up I2 (mk + 72) (upd (I2 (mk + 72)) 0 (gDay2 g 9 + duesF (gDay2 g) (gDay2 g 8) (vN (gDay2 g) 5)))) mk (gDay3 g) := CM_coin (f := 0) hC2 hm (by omega)
  have hO3 : offM mk I (va_up I2 (mk + 72) (upd (I2 (mk + 72)) 0 (gDay2 g 9 + duesF (gDay2 g) (gDay2 g 8) (vN (gDay2 g) 5)))) := offM_up (offM_trans hO1 hO2) (by omega) (by omega)
  generalize va_up I2 (mk + 72) (upd (I2 (mk + 72)) 0 (gDay2 g 9 + duesF (gDay2 g) (gDay2 g 8) (vN (gDay2 g) 5))) = I3 at hC3 hO3
  refine x_ald0 (n := 62) dX2_passDay_61 rfl ?_
  refine x_getI (n := 65) flX2_82 rfl dX2_passDay_62 rfl (mK_M hM) ?_
  rw [vD8 hC3.2.2.2.2.2.2.2 b3, vN_eq e38]
  refine x_ic1 (n := 66) dX2_passDay_65 rfl ?_
  refine x_iaddN (n := 67) dX2_passDay_66 rfl ?_
  refine x_bipush (n := 69) (v := nI 28) dX2_passDay_67 rfl (by decide) ?_
  refine x_irem (n := 70) dX2_passDay_69 rfl (by decide) ?_
  rw [pk_rem (by omega) (by omega) (by omega)]
  refine x_if_ne (n := 73) (tgt := 77) dX2_passDay_70 rfl (by decide) (fun c_70 => ?_) (fun c_70 => ?_)
  · first
      | (have h28 : (vN g 8 + 1) % 28 = 0 := (nI_eq (b := 0) (by omega) (by decide)).mp c_70
         refine last I4 (offM_trans hO3 hO4) ?_
         unfold gDay4; rw [if_pos h28]; exact hC4)
      | (have h28 : ¬ (vN g 8 + 1) % 28 = 0 := (fun h => c_70 (by rw [h]; rfl))
         refine last I3 hO3 ?_
         unfold gDay4; rw [if_neg h28]; exact hC3)
  · refine x_ald0 (n := 74) dX2_passDay_73 rfl ?_
    refine x_cV0 (n := 77) (d' := 4) zcX2_pay mlX2_107 dX2_passDay_74 rfl (mK_M hM) (Nat.le_of_ble_eq_true rfl) (Nat.le_of_ble_eq_true rfl) ?_
    refine c_X2_pay hM hC3 b3 t3 hm (fun I4 hO4 hC4 => ?_)
    refine x_none ?_
    first
      | (have h28 : (vN g 8 + 1) % 28 = 0 := (nI_eq (b := 0) (by omega) (by decide)).mp c_70
         refine last I4 (offM_trans hO3 hO4) ?_
         unfold gDay4; rw [if_pos h28]; exact hC4)
      | (have h28 : ¬ (vN g 8 + 1) % 28 = 0 := (fun h => c_70 (by rw [h]; rfl))
         refine last I3 hO3 ?_
         unfold gDay4; rw [if_neg h28]; exact hC3)
end
