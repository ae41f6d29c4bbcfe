section
variable {l : Launch} {G : zG} {Z : zS} {I I' : zI} {g g' : Nat → Int32} {mk b : Nat} {Q : Option Value → zS → zI → Prop}
theorem c_X10_addGang (hM : ShM Z mk) (hC : CM Z I mk g) (hB : InvB g) (hm : mk < 200) {v : Int32} (hq : ∀ I', offM mk I I' → CM Z I' mk (if vN g 2 = 8 then g else gGang g v) → Q (some (.int (if vN g 2 = 8 then -1000000003 else nI (vN g 2)))) Z I') : zM l G mX10_addGang 0 0 0 [.ref (mk + 10), .int v] Z I Q := by
  refine x_entry [some (.ref (mk + 10)), some (.int v)] 0 rfl rfl (Nat.le_of_ble_eq_true rfl) ?_
  have h2 := vA2 hC.2.2.1 hB
  have h8 := (iv2 hB).2
  have n1 : mk + 10 ≠ mk + 12 := by omega
  have n2 : mk + 10 ≠ mk + 13 := by omega
  have n3 : mk + 13 ≠ mk + 12 := by omega
  refine x_ald0 (n := 1) dX10_addGang_0 rfl ?_
  refine x_getI (n := 4) flX10_36 rfl dX10_addGang_1 rfl (mK_Ws hM) ?_
  rw [h2]
  refine x_bipush (n := 6) (v := nI 8) dX10_addGang_4 rfl (by decide) ?_
  refine x_icmpN_lt (n := 9) (tgt := 12) dX10_addGang_6 rfl (by decide) (by omega) (by omega) (fun c_6 => ?_) (fun c_6 => ?_)
  · refine x_ald0 (n := 13) dX10_addGang_12 rfl ?_
    refine x_getR (n := 16) flX10_17 rfl dX10_addGang_13 rfl (mK_Ws hM) (mP_gangHands hM) ?_
    refine x_ald0 (n := 17) dX10_addGang_16 rfl ?_
    refine x_getI (n := 20) flX10_36 rfl dX10_addGang_17 rfl (mK_Ws hM) ?_
    rw [h2]
    refine x_ild1 (n := 21) dX10_addGang_20 rfl ?_
    refine x_iastN (n := 22) dX10_addGang_21 rfl (mA_gangHands hM) (Nat.le_of_ble_eq_true rfl) (by omega) ?_
    refine x_ald0 (n := 23) dX10_addGang_22 rfl ?_
    refine x_getR (n := 26) flX10_21 rfl dX10_addGang_23 rfl (mK_Ws hM) (mP_gangPlace hM) ?_
    refine x_ald0 (n := 27) dX10_addGang_26 rfl ?_
    refine x_getI (n := 30) flX10_36 rfl dX10_addGang_27 rfl (mK_Ws hM) ?_
    rw [va_up_off n1, h2]
    refine x_ldc (n := 32) dX10_addGang_30 rfl kiX10_54 ?_
    refine x_iastN (n := 33) dX10_addGang_32 rfl (mA_gangPlace hM) (Nat.le_of_ble_eq_true rfl) (by omega) ?_
    refine x_ald0 (n := 34) dX10_addGang_33 rfl ?_
    refine x_dup (n := 35) dX10_addGang_34 rfl rfl ?_
    refine x_getI (n := 38) flX10_36 rfl dX10_addGang_35 rfl (mK_Ws hM) ?_
    rw [va_up_off n2, va_up_off n1, h2]
    refine x_ic1 (n := 39) dX10_addGang_38 rfl ?_
    refine x_iaddN (n := 40) dX10_addGang_39 rfl ?_
    refine x_putI (n := 43) flX10_36 rfl (Or.inl rfl) rfl rfl dX10_addGang_40 rfl (mK_Ws hM) ?_
    refine x_ald0 (n := 44) dX10_addGang_43 rfl ?_
    refine x_getI (n := 47) flX10_36 rfl dX10_addGang_44 rfl (mK_Ws hM) ?_
    rw [va_up_same, upd_same]
    refine x_ic1 (n := 48) dX10_addGang_47 rfl ?_
    refine x_isubN (n := 49) dX10_addGang_48 rfl (by omega) ?_
    rw [Nat.add_sub_cancel]
    refine r_iret dX10_addGang_49 rfl ?_
    rw [if_neg (by omega)] at hq; rw [if_neg (by omega)] at hq
    refine hq _ (offM_up (offM_up (up1 (by omega) (by omega)) (by omega) (by omega)) (by omega) (by omega)) ?_
    have e2 : vN (gGang g v) 2 = vN g 2 + 1 := by unfold gGang; unfold vN; rw [upd_same, nI_toInt (by unfold vN at h8; omega)]; rfl
    refine CM_setA hC hm (fun a a1 a2 a3 => ?_) ?_ (fun i i1 i2 _ => ?_) ?_
    · rw [va_up_off a1, va_up_off a3, va_up_off a2]
    · rw [va_up_same, upd_off (by omega), va_up_off n2, va_up_off n1]
    · unfold gGang; rw [upd_off i1, upd_off (by omega), upd_off (by omega)]
    · refine ⟨by omega, ?_, fun k hk => ?_⟩
      · rw [va_up_same, upd_same]; unfold gGang; rw [upd_same]
      · rw [e2] at hk
        rw [va_up_off (show mk + 12 ≠ mk + 10 by omega), va_up_off (show mk + 12 ≠ mk + 13 by omega), va_up_same, va_up_off (show mk + 13 ≠ mk + 10 by omega), va_up_same, va_up_off n3]
        unfold gGang
        by_cases hkn : k = vN g 2
        · subst hkn
          rw [upd_same, upd_same, upd_off (by omega), upd_off (by omega), upd_same, upd_off (by omega), upd_same]
          exact ⟨rfl, by decide⟩
        · rw [upd_off hkn, upd_off hkn, upd_off (by omega), upd_off (by omega), upd_off (by omega), upd_off (by omega), upd_off (by omega), upd_off (by omega)]
          exact hC.2.2.1.2.2 k (by omega)
  · refine x_ldc (n := 11) dX10_addGang_9 rfl kiX10_49 ?_
    refine r_iret dX10_addGang_11 rfl ?_
    rw [if_pos (by omega)] at hq; rw [if_pos (by omega)] at hq; exact hq I offM_refl hC
/-- all ahead are through -/
theorem ready_bits (hB : InvB g) {w : Nat} (hw : w < vN g 1) : (vN g (120 + 10 * w + 5) ^^^ (vN g (120 + 10 * w + 5) &&& zbs (gThr g) (vN g 1)) = 0) ↔ gReady g w = true := by
  obtain ⟨ha1, ha2⟩ := w_ahead hB hw
  have h24 := (iv1 hB).2
  unfold gReady
  rw [zal_t, ha1]
  generalize vN g (120 + 10 * w + 5) = a at ha2
  have hb : ∀ j, j < 24 → gBit (nI a) j = a.testBit j := fun j hj => gBitN (by omega) (by omega)
  have hz : ∀ j, (zbs (gThr g) (vN g 1)).testBit j = gThr g j := by
    intro j
    rw [zbs_bit]
    unfold gThr
    cases decide (j < vN g 1) <;> rfl
  constructor
  · intro h j hj
    have e := zandn_bit a (zbs (gThr g) (vN g 1)) j
    rw [h, Nat.zero_testBit, hz] at e
    rw [hb j hj]
    cases h1 : a.testBit j
    · rfl
    · rw [h1] at e
      cases h2 : gThr g j
      · rw [h2] at e; cases e
      · rfl
  · intro h
    apply Nat.eq_of_testBit_eq
    intro j
    rw [zandn_bit, Nat.zero_testBit, hz]
    by_cases hj : j < 24
    · have e := h j hj
      rw [hb j hj] at e
      cases h1 : a.testBit j
      · rfl
      · rw [h1] at e
        cases h2 : gThr g j
        · rw [h2] at e; cases e
        · rfl
    · rw [Nat.testBit_lt_two_pow (Nat.lt_of_lt_of_le ha2 (Nat.pow_le_pow_right (by omega) (by omega)))]; rfl
theorem l_X10_lab1 (hM : ShM Z mk) (hC : CM Z I mk g) (hB : InvB g) (hm : mk < 200) {k : Nat} (hk : k < vN g 2) (kk : ∀ I', offM mk I I' → CM Z I' mk (gLab g k) → zX l G mX10_labour 3 0 0 90 [some (.ref (mk + 10)), some (.ref (mk + 1)), some (.int (gWet g (vN g 8))), some (.int (nI k)), none, none] [] Z I' Q) : zX l G mX10_labour 3 0 0 10 [some (.ref (mk + 10)), some (.ref (mk + 1)), some (.int (gWet g (vN g 8))), some (.int (nI k)), none, none] [] Z I Q := by
  have h8 := (iv2 hB).2
  have h24 := (iv1 hB).2
  have hA := (hC.2.2.1.2.2 k hk)
  by_cases hn : (g (360 + 2 * k + 1)).toInt < 0
  · have hg : gLab g k = g := by unfold gLab; rw [if_pos hn]
    rw [hg] at kk
    refine x_ald0 (n := 11) dX10_labour_10 rfl ?_
    refine x_ald0 (n := 12) dX10_labour_11 rfl ?_
    refine x_getR (n := 15) flX10_21 rfl dX10_labour_12 rfl (mK_Ws hM) (mP_gangPlace hM) ?_
    refine x_ild3 (n := 16) dX10_labour_15 rfl ?_
    refine x_ialdN (n := 17) dX10_labour_16 rfl (mA_gangPlace hM) (Nat.le_of_ble_eq_true rfl) (by omega) ?_
    rw [hA.2]
    unfold orNone
    rw [if_pos hn]
    refine x_cV1 (n := 20) (d' := 1) zcX10_numbered mlX10_71 dX10_labour_17 rfl (mK_Ws hM) (Nat.le_of_ble_eq_true rfl) (Nat.le_of_ble_eq_true rfl) ?_
    refine c_X10_numberedN hM hC.2.1 hB (decide_eq_false (by rw [show (-1000000005 : Int32).toInt = -1000000005 by decide]; omega)) ?_
    refine x_some ?_
    refine x_nst4 (n := 22) dX10_labour_20 rfl (by decide) rfl ?_
    refine x_nld4 (n := 24) dX10_labour_22 rfl ?_
    refine x_ifnullN (n := 90) dX10_labour_24 (by decide) ?_
    exact x_fg4 (kk I offM_refl hC)
  · have hw := gang_on hB hk hn
    have hp := rg_nI (g := g) (i := 360 + 2 * k + 1) (lo := 0) (hi := 24) (by have := (ivG hB hk).2; unfold rg at *; omega) (by omega) (by omega)
    have hor : I (mk + 13) k = nI (vN g (360 + 2 * k + 1)) := by rw [hA.2]; unfold orNone; rw [if_neg hn]; exact hp
    obtain ⟨a1, a2⟩ := w_ahead hB hw
    obtain ⟨c1, c2⟩ := w_chain hB hw
    obtain ⟨s1, s2⟩ := w_str hB hw
    have hrd := ready_bits hB hw
    have hlt := zandn_lt (b := zbs (gThr g) (vN g 1)) a2
    unfold gLab at kk
    rw [if_neg hn] at kk
    generalize vN g (360 + 2 * k + 1) = w at hw hor a1 a2 c1 c2 s1 s2 hrd kk hlt
    unfold gRate at kk
    rw [s1] at kk
    unfold gStr at s1
    refine x_ald0 (n := 11) dX10_labour_10 rfl ?_
    refine x_ald0 (n := 12) dX10_labour_11 rfl ?_
    refine x_getR (n := 15) flX10_21 rfl dX10_labour_12 rfl (mK_Ws hM) (mP_gangPlace hM) ?_
    refine x_ild3 (n := 16) dX10_labour_15 rfl ?_
    refine x_ialdN (n := 17) dX10_labour_16 rfl (mA_gangPlace hM) (Nat.le_of_ble_eq_true rfl) (by omega) ?_
    rw [hor]
    refine x_cV1 (n := 20) (d' := 1) zcX10_numbered mlX10_71 dX10_labour_17 rfl (mK_Ws hM) (Nat.le_of_ble_eq_true rfl) (Nat.le_of_ble_eq_true rfl) ?_
    refine c_X10_numbered hM hC.2.1 hB hw ?_
    refine x_some ?_
    refine x_ast4 (n := 22) dX10_labour_20 rfl (by decide) rfl ?_
    refine x_ald4 (n := 24) dX10_labour_22 rfl ?_
    refine x_ifnull (n := 27) dX10_labour_24 rfl ?_
    refine x_ald4 (n := 29) dX10_labour_27 rfl ?_
    refine x_getI (n := 32) flX10_75 rfl dX10_labour_29 rfl (mK_W hM (by omega)) ?_
    refine x_ald0 (n := 33) dX10_labour_32 rfl ?_
    rw [cW4 hC.2.1 hw, a1]
    refine x_cV0 (n := 36) (d' := 1) zcX10_throughBits mlX10_78 dX10_labour_33 rfl (mK_Ws hM) (Nat.le_of_ble_eq_true rfl) (Nat.le_of_ble_eq_true rfl) ?_
    refine c_X10_throughBits hM hC.2.1 hB ?_
    refine x_some ?_
    refine x_icm1 (n := 37) dX10_labour_36 rfl ?_
    refine x_ixor (n := 38) dX10_labour_37 rfl ?_
    refine x_iand (n := 39) dX10_labour_38 rfl ?_
    rw [zandn]
    refine x_if_ne (n := 42) (tgt := 90) dX10_labour_39 rfl (by decide) (fun c_39 => ?_) (fun c_39 => ?_)
    · first | (have hnr : ¬ gReady g w = true := (by rw [← hrd]; intro e; rw [e] at c_39; exact c_39 rfl); rw [if_neg hnr] at kk; exact x_fg4 (kk I offM_refl hC)) | exact x_fg4 (x_fg5 (kk _ (up1 (by omega) (by omega)) (CM_wf hC hm hw (Or.inl ⟨rfl, rfl⟩))))
    · rw [if_pos (hrd.mp ((nI_eq (b := 0) (by omega) (by decide)).mp c_39))] at kk
      refine x_ald4 (n := 44) dX10_labour_42 rfl ?_
      refine x_ald1 (n := 45) dX10_labour_44 rfl ?_
      refine x_ald4 (n := 47) dX10_labour_45 rfl ?_
      refine x_getI (n := 50) flX10_55 rfl dX10_labour_47 rfl (mK_W hM (by omega)) ?_
      rw [cW1 hC.2.1 hw, c1]
      refine x_cV1 (n := 53) (d' := 1) zcX1_stratumOf mlX10_82 dX10_labour_50 rfl (mK_Gr hM) (Nat.le_of_ble_eq_true rfl) (Nat.le_of_ble_eq_true rfl) ?_
      refine c_X1_stratumOf hM hC.1 hB c2 ?_
      refine x_some ?_
      refine x_ild2 (n := 54) dX10_labour_53 rfl ?_
      rw [s1]
      refine x_cV2 (n := 57) (d' := 2) zcX9_rateIn mlX10_88 dX10_labour_54 rfl (mK_W hM (by omega)) (Nat.le_of_ble_eq_true rfl) (Nat.le_of_ble_eq_true rfl) ?_
      refine c_X9_rateIn (mS_W hM (by omega)) s2 ?_
      rw [cW0 hC.2.1 hw]
      refine x_some ?_
      refine x_ist5 (n := 59) dX10_labour_57 rfl (by decide) rfl ?_
      refine x_ald4 (n := 61) dX10_labour_59 rfl ?_
      refine x_ald4 (n := 63) dX10_labour_61 rfl ?_
      refine x_getI (n := 66) flX10_92 rfl dX10_labour_63 rfl (mK_W hM (by omega)) ?_
      refine x_ald4 (n := 68) dX10_labour_66 rfl ?_
      refine x_getI (n := 71) flX10_64 rfl dX10_labour_68 rfl (mK_W hM (by omega)) ?_
      refine x_ald0 (n := 72) dX10_labour_71 rfl ?_
      refine x_getR (n := 75) flX10_17 rfl dX10_labour_72 rfl (mK_Ws hM) (mP_gangHands hM) ?_
      refine x_ild3 (n := 76) dX10_labour_75 rfl ?_
      refine x_ialdN (n := 77) dX10_labour_76 rfl (mA_gangHands hM) (Nat.le_of_ble_eq_true rfl) (by omega) ?_
      refine x_ild5 (n := 79) dX10_labour_77 rfl ?_
      refine x_imul (n := 80) dX10_labour_79 rfl ?_
      refine x_bipush (n := 82) (v := nI 10) dX10_labour_80 rfl (by decide) ?_
      refine x_idiv (n := 83) dX10_labour_82 rfl (by decide) ?_
      refine x_iadd (n := 84) dX10_labour_83 rfl ?_
      rw [cW2 hC.2.1 hw, cW3 hC.2.1 hw, hA.1]
      refine x_mmin (n := 87) dX10_labour_84 rfl mlX10_95 zu_min zi_J9 zv_min (by decide) (Nat.le_of_ble_eq_true rfl) ?_
      rw [mmin_eq]
      refine x_putI (n := 90) flX10_64 rfl (Or.inl rfl) rfl rfl dX10_labour_87 rfl (mK_W hM (by omega)) ?_
      first | (have hnr : ¬ gReady g w = true := (by rw [← hrd]; intro e; rw [e] at c_39; exact c_39 rfl); rw [if_neg hnr] at kk; exact x_fg4 (kk I offM_refl hC)) | exact x_fg4 (x_fg5 (kk _ (up1 (by omega) (by omega)) (CM_wf hC hm hw (Or.inl ⟨rfl, rfl⟩))))
theorem gLab_vN (hB : InvB g) {k : Nat} (hk : k < vN g 2) {i : Nat} (hi : i < 120 ∨ 360 ≤ i) : vN (gLab g k) i = vN g i := vN_eq (gLab_off k hi hB hk)
/-- the gangs up to k have worked -/
theorem labs (hB : InvB g) : ∀ k, k ≤ vN g 2 → InvB (zit gLab g k) ∧ ∀ i, i < 120 ∨ 360 ≤ i → zit gLab g k i = g i
  | 0, _ => ⟨hB, fun _ _ => rfl⟩
  | k + 1, hk => by
    obtain ⟨h1, h2⟩ := labs hB k (by omega)
    have e2 : vN (zit gLab g k) 2 = vN g 2 := vN_eq (h2 2 (by omega))
    exact ⟨gLab_inv h1 (by omega), fun i hi => (gLab_off k hi h1 (by omega)).trans (h2 i hi)⟩
theorem gWet_of (h : ∀ i, i < 120 ∨ 360 ≤ i → g' i = g i) : gWet g' (vN g' 8) = gWet g (vN g 8) := by
  unfold gWet
  rw [vN_eq (h 8 (by omega))]
  split
  · rw [h _ (by omega)]
  · rfl
theorem l_X10_labour (hM : ShM Z mk) (hB : InvB g) (hm : mk < 200) (hq : ∀ I', offM mk I I' → CM Z I' mk (gDay1 g) → Q none Z I') : ∀ m k I1, offM mk I I1 → CM Z I1 mk (zit gLab g k) → k ≤ vN g 2 → vN g 2 - k < m → zX l G mX10_labour 3 0 0 2 [some (.ref (mk + 10)), some (.ref (mk + 1)), some (.int (gWet g (vN g 8))), some (.int (nI k)), none, none] [] Z I1 Q := by
  intro m
  induction m with
  | zero => intro k I1 _ _ _ h; exact absurd h (by omega)
  | succ m ih =>
    intro k I1 hO hC hk hmm
    obtain ⟨hB1, hoff⟩ := labs hB k hk
    have e2 : vN (zit gLab g k) 2 = vN g 2 := vN_eq (hoff 2 (by omega))
    have h2 := vA2 hC.2.2.1 hB1
    rw [e2] at h2
    have h8 := (iv2 hB).2
    refine x_ild3 (n := 3) dX10_labour_2 rfl ?_
    refine x_ald0 (n := 4) dX10_labour_3 rfl ?_
    refine x_getI (n := 7) flX10_36 rfl dX10_labour_4 rfl (mK_Ws hM) ?_
    rw [h2]
    refine x_icmpN_ge (n := 10) (tgt := 96) dX10_labour_7 rfl (by decide) (by omega) (by omega) (fun c_7 => ?_) (fun c_7 => ?_)
    · refine r_vret dX10_labour_96 rfl ?_
      refine hq I1 hO ?_
      unfold gDay1
      rw [← show k = vN g 2 by omega]; exact hC
    · rw [← gWet_of hoff]
      refine l_X10_lab1 hM hC hB1 hm (by omega) (fun I2 hO2 hC2 => ?_)
      rw [gWet_of hoff]
      refine x_iincN3 (n := 93) (k := 1) dX10_labour_90 rfl (by decide) rfl ?_
      refine x_goto (n := 2) dX10_labour_93 (by decide) ?_
      exact ih (k + 1) I2 (offM_trans hO hO2) hC2 (by omega) (by omega)
theorem c_X10_labour (hM : ShM Z mk) (hC : CM Z I mk g) (hB : InvB g) (hm : mk < 200) (hq : ∀ I', offM mk I I' → CM Z I' mk (gDay1 g) → Q none Z I') : zM l G mX10_labour 3 0 0 [.ref (mk + 10), .ref (mk + 1), .int (gWet g (vN g 8))] Z I Q := by
  refine x_entry [some (.ref (mk + 10)), some (.ref (mk + 1)), some (.int (gWet g (vN g 8))), none, none, none] 3 rfl rfl (Nat.le_of_ble_eq_true rfl) ?_
  refine x_ic0 (n := 1) dX10_labour_0 rfl ?_
  refine x_ist3 (n := 2) dX10_labour_1 rfl (by decide) rfl ?_
  exact l_X10_labour hM hB hm hq (vN g 2 + 1) 0 I offM_refl hC (by omega) (by omega)
end
