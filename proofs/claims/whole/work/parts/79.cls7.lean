section
variable {l : Launch} {G : zG} {Z : zS} {I I' : zI} {g g' : Nat → Int32} {mk b : Nat} {Q : Option Value → zS → zI → Prop}
theorem vP5 (h : cmP I mk g) (hB : InvB g) : I (mk + 72) 4 = nI (vN g 5) := h.2.2.2.1.trans (iv5 hB).1
theorem vC4 (h : cmC I mk g) (hB : InvB g) : I (mk + 66) 3 = nI (vN g 4) := h.2.1.trans (iv4 hB).1
theorem vF6 (h : cmF I mk g) (hB : InvB g) : I (mk + 75) 2 = nI (vN g 6) := h.2.1.trans (iv6 hB).1
theorem vF7 (h : cmF I mk g) (hB : InvB g) : I (mk + 75) 4 = nI (vN g 7) := h.2.2.1.trans (iv7 hB).1
theorem vD8 (h : cmD I mk g) (hB : InvB g) : I mk 7 = nI (vN g 8) := h.1.trans (iv8 hB).1
theorem l_X4_duesOn (hM : ShM Z mk) (hP : cmP I mk g) (hB : InvB g) {x : Int32} (hq : Q (some (.int (duesF g x (vN g 5)))) Z I) : ∀ m k, k ≤ vN g 5 → vN g 5 - k < m → zX l G mX4_duesOn 0 0 0 4 [some (.ref (mk + 72)), some (.int x), some (.int (duesF g x k)), some (.int (nI k))] [] Z I Q := by
  intro m
  have h1 := vP5 hP hB
  have h20 := (iv5 hB).2
  induction m with
  | zero => intro k _ h; exact absurd h (by omega)
  | succ m ih =>
    intro k hk hm
    have hs : duesF g x (k + 1) = duesF g x k + if g (440 + 2 * k) = x then g (440 + 2 * k + 1) else nI 0 := rfl
    refine x_ild3 (n := 5) dX4_duesOn_4 rfl ?_
    refine x_ald0 (n := 6) dX4_duesOn_5 rfl ?_
    refine x_getI (n := 9) flX4_25 rfl dX4_duesOn_6 rfl (mK_Pu hM) ?_
    rw [h1]
    refine x_icmpN_ge (n := 12) (tgt := 41) dX4_duesOn_9 rfl (by decide) (by omega) (by omega) (fun c_9 => ?_) (fun c_9 => ?_)
    · refine x_ild2 (n := 42) dX4_duesOn_41 rfl ?_
      refine r_iret dX4_duesOn_42 rfl ?_
      rw [show k = vN g 5 by omega]; exact hq
    · refine x_ild2 (n := 13) dX4_duesOn_12 rfl ?_
      refine x_ald0 (n := 14) dX4_duesOn_13 rfl ?_
      refine x_getR (n := 17) flX4_11 rfl dX4_duesOn_14 rfl (mK_Pu hM) (mP_dueDay hM) ?_
      refine x_ild3 (n := 18) dX4_duesOn_17 rfl ?_
      refine x_ialdN (n := 19) dX4_duesOn_18 rfl (mA_dueDay hM) (Nat.le_of_ble_eq_true rfl) (by omega) ?_
      refine x_ild1 (n := 20) dX4_duesOn_19 rfl ?_
      rw [(hP.2.2.2.2 k (by omega)).1]
      refine x_icmp_ne (n := 23) (tgt := 32) dX4_duesOn_20 rfl (by decide) (fun c_20 => ?_) (fun c_20 => ?_)
      · refine x_ic0 (n := 33) dX4_duesOn_32 rfl ?_
        refine x_iadd (n := 34) dX4_duesOn_33 rfl ?_
        refine x_ist2 (n := 35) dX4_duesOn_34 rfl (by decide) rfl ?_
        refine x_iincN3 (n := 38) (k := 1) dX4_duesOn_35 rfl (by decide) rfl ?_
        refine x_goto (n := 4) dX4_duesOn_38 (by decide) ?_
        first | (rw [if_pos c_20] at hs; rw [← hs]; exact ih (k + 1) (by omega) (by omega)) | (rw [if_neg c_20] at hs; rw [← hs]; exact ih (k + 1) (by omega) (by omega))
      · refine x_ald0 (n := 24) dX4_duesOn_23 rfl ?_
        refine x_getR (n := 27) flX4_15 rfl dX4_duesOn_24 rfl (mK_Pu hM) (mP_dueCoins hM) ?_
        refine x_ild3 (n := 28) dX4_duesOn_27 rfl ?_
        refine x_ialdN (n := 29) dX4_duesOn_28 rfl (mA_dueCoins hM) (Nat.le_of_ble_eq_true rfl) (by omega) ?_
        rw [(hP.2.2.2.2 k (by omega)).2]
        refine x_goto (n := 33) dX4_duesOn_29 (by decide) ?_
        refine x_iadd (n := 34) dX4_duesOn_33 rfl ?_
        refine x_ist2 (n := 35) dX4_duesOn_34 rfl (by decide) rfl ?_
        refine x_iincN3 (n := 38) (k := 1) dX4_duesOn_35 rfl (by decide) rfl ?_
        refine x_goto (n := 4) dX4_duesOn_38 (by decide) ?_
        first | (rw [if_pos c_20] at hs; rw [← hs]; exact ih (k + 1) (by omega) (by omega)) | (rw [if_neg c_20] at hs; rw [← hs]; exact ih (k + 1) (by omega) (by omega))
theorem c_X4_duesOn (hM : ShM Z mk) (hP : cmP I mk g) (hB : InvB g) {x : Int32} (hq : Q (some (.int (duesF g x (vN g 5)))) Z I) : zM l G mX4_duesOn 0 0 0 [.ref (mk + 72), .int x] Z I Q := by
  refine x_entry [some (.ref (mk + 72)), some (.int x), none, none] 2 rfl rfl (Nat.le_of_ble_eq_true rfl) ?_
  refine x_ic0 (n := 1) dX4_duesOn_0 rfl ?_
  refine x_ist2 (n := 2) dX4_duesOn_1 rfl (by decide) rfl ?_
  refine x_ic0 (n := 3) dX4_duesOn_2 rfl ?_
  refine x_ist3 (n := 4) dX4_duesOn_3 rfl (by decide) rfl ?_
  exact l_X4_duesOn hM hP hB hq (vN g 5 + 1) 0 (by omega) (by omega)
theorem l_X4_runsOut (hM : ShM Z mk) (hP : cmP I mk g) (hB : InvB g) {D : Nat} (hD : D < 10000) : ∀ m d has, m ≤ 400 → d + m = D + 400 → Q (some (.int (outF g m d has))) Z I → zX l G mX4_runsOut 1 0 0 7 [some (.ref (mk + 72)), some (.int (nI D)), some (.int has), some (.int (nI d))] [] Z I Q := by
  intro m
  induction m with
  | zero =>
    intro d has _ hd hq
    refine x_ild3 (n := 8) dX4_runsOut_7 rfl ?_
    refine x_ild1 (n := 9) dX4_runsOut_8 rfl ?_
    refine x_sipush (n := 12) (v := nI 400) dX4_runsOut_9 rfl (by decide) ?_
    refine x_iaddN (n := 13) dX4_runsOut_12 rfl ?_
    refine x_icmpN_ge (n := 16) (tgt := 36) dX4_runsOut_13 rfl (by decide) (by omega) (by omega) (fun c_13 => ?_) (fun c_13 => ?_)
    · refine x_ldc (n := 38) dX4_runsOut_36 rfl kiX4_39 ?_
      refine r_iret dX4_runsOut_38 rfl ?_
      exact hq
    · exact absurd c_13 (by omega)
  | succ m ih =>
    intro d has hm hd hq
    have hs : outF g (m + 1) d has = if has + duesF g (nI d) (vN g 5) < 0 then nI d else outF g m (d + 1) (has + duesF g (nI d) (vN g 5)) := rfl
    rw [hs] at hq
    refine x_ild3 (n := 8) dX4_runsOut_7 rfl ?_
    refine x_ild1 (n := 9) dX4_runsOut_8 rfl ?_
    refine x_sipush (n := 12) (v := nI 400) dX4_runsOut_9 rfl (by decide) ?_
    refine x_iaddN (n := 13) dX4_runsOut_12 rfl ?_
    refine x_icmpN_ge (n := 16) (tgt := 36) dX4_runsOut_13 rfl (by decide) (by omega) (by omega) (fun c_13 => ?_) (fun c_13 => ?_)
    · exact absurd c_13 (by omega)
    · refine x_ild2 (n := 17) dX4_runsOut_16 rfl ?_
      refine x_ald0 (n := 18) dX4_runsOut_17 rfl ?_
      refine x_ild3 (n := 19) dX4_runsOut_18 rfl ?_
      refine x_cV1 (n := 22) (d' := 0) zcX4_duesOn mlX4_35 dX4_runsOut_19 rfl (mK_Pu hM) (Nat.le_of_ble_eq_true rfl) (Nat.le_of_ble_eq_true rfl) ?_
      refine c_X4_duesOn hM hP hB ?_
      refine x_some ?_
      refine x_iadd (n := 23) dX4_runsOut_22 rfl ?_
      refine x_ist2 (n := 24) dX4_runsOut_23 rfl (by decide) rfl ?_
      refine x_ild2 (n := 25) dX4_runsOut_24 rfl ?_
      refine x_if_ge (n := 28) (tgt := 30) dX4_runsOut_25 rfl (by decide) (fun c_25 => ?_) (fun c_25 => ?_)
      · refine x_iincN3 (n := 33) (k := 1) dX4_runsOut_30 rfl (by decide) rfl ?_
        refine x_goto (n := 7) dX4_runsOut_33 (by decide) ?_
        rw [if_neg (by rw [zlt]; rw [zle] at c_25; omega)] at hq
        exact ih (d + 1) _ (by omega) (by omega) hq
      · refine x_ild3 (n := 29) dX4_runsOut_28 rfl ?_
        refine r_iret dX4_runsOut_29 rfl ?_
        rw [if_pos (by rw [zlt]; rw [zle] at c_25; omega)] at hq; exact hq
theorem c_X4_runsOut (hM : ShM Z mk) (hP : cmP I mk g) (hB : InvB g) (hq : Q (some (.int (f_out g))) Z I) : zM l G mX4_runsOut 1 0 0 [.ref (mk + 72), .int (nI (vN g 8))] Z I Q := by
  refine x_entry [some (.ref (mk + 72)), some (.int (nI (vN g 8))), none, none] 2 rfl rfl (Nat.le_of_ble_eq_true rfl) ?_
  have h8 := (iv8 hB).2
  refine x_ald0 (n := 1) dX4_runsOut_0 rfl ?_
  refine x_getI (n := 4) flX4_18 rfl dX4_runsOut_1 rfl (mK_Pu hM) ?_
  rw [hP.2.1]
  refine x_ist2 (n := 5) dX4_runsOut_4 rfl (by decide) rfl ?_
  refine x_ild1 (n := 6) dX4_runsOut_5 rfl ?_
  refine x_ist3 (n := 7) dX4_runsOut_6 rfl (by decide) rfl ?_
  exact l_X4_runsOut hM hP hB (by omega) 400 (vN g 8) (g 9) (by omega) rfl hq
theorem c_X4_addDue (hM : ShM Z mk) (hC : CM Z I mk g) (hB : InvB g) (hm : mk < 200) {x y : Int32} (hq : ∀ I', offM mk I I' → CM Z I' mk (if vN g 5 = 20 then g else gDue g x y) → Q (some (.int (if vN g 5 = 20 then -1000000003 else nI (vN g 5)))) Z I') : zM l G mX4_addDue 0 0 0 [.ref (mk + 72), .int x, .int y] Z I Q := by
  refine x_entry [some (.ref (mk + 72)), some (.int x), some (.int y)] 0 rfl rfl (Nat.le_of_ble_eq_true rfl) ?_
  have h5 := vP5 hC.2.2.2.2.2.1 hB
  have h20 := (iv5 hB).2
  have n1 : mk + 72 ≠ mk + 73 := by omega
  have n2 : mk + 72 ≠ mk + 74 := by omega
  have n3 : mk + 74 ≠ mk + 73 := by omega
  refine x_ald0 (n := 1) dX4_addDue_0 rfl ?_
  refine x_getI (n := 4) flX4_25 rfl dX4_addDue_1 rfl (mK_Pu hM) ?_
  rw [h5]
  refine x_bipush (n := 6) (v := nI 20) dX4_addDue_4 rfl (by decide) ?_
  refine x_icmpN_lt (n := 9) (tgt := 12) dX4_addDue_6 rfl (by decide) (by omega) (by omega) (fun c_6 => ?_) (fun c_6 => ?_)
  · refine x_ald0 (n := 13) dX4_addDue_12 rfl ?_
    refine x_getR (n := 16) flX4_11 rfl dX4_addDue_13 rfl (mK_Pu hM) (mP_dueDay hM) ?_
    refine x_ald0 (n := 17) dX4_addDue_16 rfl ?_
    refine x_getI (n := 20) flX4_25 rfl dX4_addDue_17 rfl (mK_Pu hM) ?_
    rw [h5]
    refine x_ild1 (n := 21) dX4_addDue_20 rfl ?_
    refine x_iastN (n := 22) dX4_addDue_21 rfl (mA_dueDay hM) (Nat.le_of_ble_eq_true rfl) (by omega) ?_
    refine x_ald0 (n := 23) dX4_addDue_22 rfl ?_
    refine x_getR (n := 26) flX4_15 rfl dX4_addDue_23 rfl (mK_Pu hM) (mP_dueCoins hM) ?_
    refine x_ald0 (n := 27) dX4_addDue_26 rfl ?_
    refine x_getI (n := 30) flX4_25 rfl dX4_addDue_27 rfl (mK_Pu hM) ?_
    rw [va_up_off n1, h5]
    refine x_ild2 (n := 31) dX4_addDue_30 rfl ?_
    refine x_iastN (n := 32) dX4_addDue_31 rfl (mA_dueCoins hM) (Nat.le_of_ble_eq_true rfl) (by omega) ?_
    refine x_ald0 (n := 33) dX4_addDue_32 rfl ?_
    refine x_dup (n := 34) dX4_addDue_33 rfl rfl ?_
    refine x_getI (n := 37) flX4_25 rfl dX4_addDue_34 rfl (mK_Pu hM) ?_
    rw [va_up_off n2, va_up_off n1, h5]
    refine x_ic1 (n := 38) dX4_addDue_37 rfl ?_
    refine x_iaddN (n := 39) dX4_addDue_38 rfl ?_
    refine x_putI (n := 42) flX4_25 rfl (Or.inl rfl) rfl rfl dX4_addDue_39 rfl (mK_Pu hM) ?_
    refine x_ald0 (n := 43) dX4_addDue_42 rfl ?_
    refine x_getI (n := 46) flX4_25 rfl dX4_addDue_43 rfl (mK_Pu hM) ?_
    rw [va_up_same, upd_same]
    refine x_ic1 (n := 47) dX4_addDue_46 rfl ?_
    refine x_isubN (n := 48) dX4_addDue_47 rfl (by omega) ?_
    rw [Nat.add_sub_cancel]
    refine r_iret dX4_addDue_48 rfl ?_
    rw [if_neg (by omega)] at hq; rw [if_neg (by omega)] at hq
    refine hq _ (offM_up (offM_up (up1 (by omega) (by omega)) (by omega) (by omega)) (by omega) (by omega)) ?_
    have e2 : vN (gDue g x y) 5 = vN g 5 + 1 := by unfold gDue; unfold vN; rw [upd_same, nI_toInt (by unfold vN at h20; omega)]; rfl
    refine CM_setP hC hm (fun a ha => ?_) (fun i i1 i2 i3 i4 => ?_) ?_
    · rw [va_up_off (by omega), va_up_off (by omega), va_up_off (by omega)]
    · unfold gDue; rw [upd_off i1, upd_off (by omega), upd_off (by omega)]
    · obtain ⟨p0, p1, p2, p3, p4⟩ := hC.2.2.2.2.2.1
      refine ⟨by omega, ?_, ?_, ?_, fun k hk => ?_⟩
      · rw [va_up_same, upd_off (by omega), va_up_off n2, va_up_off n1]; unfold gDue; rw [upd_off (by omega), upd_off (by omega), upd_off (by omega)]; exact p1
      · rw [va_up_same, upd_off (by omega), va_up_off n2, va_up_off n1]; unfold gDue; rw [upd_off (by omega), upd_off (by omega), upd_off (by omega)]; exact p2
      · rw [va_up_same, upd_same]; unfold gDue; rw [upd_same]
      · rw [e2] at hk
        rw [va_up_off (show mk + 73 ≠ mk + 72 by omega), va_up_off (show mk + 73 ≠ mk + 74 by omega), va_up_same, va_up_off (show mk + 74 ≠ mk + 72 by omega), va_up_same, va_up_off n3]
        unfold gDue
        by_cases hkn : k = vN g 5
        · subst hkn
          rw [upd_same, upd_same, upd_off (by omega), upd_off (by omega), upd_same, upd_off (by omega), upd_same]
          exact ⟨rfl, rfl⟩
        · rw [upd_off hkn, upd_off hkn, upd_off (by omega), upd_off (by omega), upd_off (by omega), upd_off (by omega), upd_off (by omega), upd_off (by omega)]
          exact p4 k (by omega)
  · refine x_ldc (n := 11) dX4_addDue_9 rfl kiX4_34 ?_
    refine r_iret dX4_addDue_11 rfl ?_
    rw [if_pos (by omega)] at hq; rw [if_pos (by omega)] at hq; exact hq I offM_refl hC
theorem c_X0_addClaim (hM : ShM Z mk) (hC : CM Z I mk g) (hB : InvB g) (hm : mk < 200) {x y z : Int32} (hq : ∀ I', offM mk I I' → CM Z I' mk (if vN g 4 = 20 then g else gClaim g x y z) → Q (some (.int (if vN g 4 = 20 then -1000000003 else nI (vN g 4)))) Z I') : zM l G mX0_addClaim 0 0 0 [.ref (mk + 66), .int x, .int y, .int z] Z I Q := by
  refine x_entry [some (.ref (mk + 66)), some (.int x), some (.int y), some (.int z)] 0 rfl rfl (Nat.le_of_ble_eq_true rfl) ?_
  have h4 := vC4 hC.2.2.2.2.1 hB
  have h20 := (iv4 hB).2
  have n1 : mk + 66 ≠ mk + 67 := by omega
  have n2 : mk + 66 ≠ mk + 68 := by omega
  have n3 : mk + 66 ≠ mk + 69 := by omega
  refine x_ald0 (n := 1) dX0_addClaim_0 rfl ?_
  refine x_getI (n := 4) flX0_27 rfl dX0_addClaim_1 rfl (mK_Cl hM) ?_
  rw [h4]
  refine x_bipush (n := 6) (v := nI 20) dX0_addClaim_4 rfl (by decide) ?_
  refine x_icmpN_lt (n := 9) (tgt := 12) dX0_addClaim_6 rfl (by decide) (by omega) (by omega) (fun c_6 => ?_) (fun c_6 => ?_)
  · refine x_ald0 (n := 13) dX0_addClaim_12 rfl ?_
    refine x_getR (n := 16) flX0_11 rfl dX0_addClaim_13 rfl (mK_Cl hM) (mP_from hM) ?_
    refine x_ald0 (n := 17) dX0_addClaim_16 rfl ?_
    refine x_getI (n := 20) flX0_27 rfl dX0_addClaim_17 rfl (mK_Cl hM) ?_
    rw [h4]
    refine x_ild1 (n := 21) dX0_addClaim_20 rfl ?_
    refine x_iastN (n := 22) dX0_addClaim_21 rfl (mA_from hM) (Nat.le_of_ble_eq_true rfl) (by omega) ?_
    refine x_ald0 (n := 23) dX0_addClaim_22 rfl ?_
    refine x_getR (n := 26) flX0_15 rfl dX0_addClaim_23 rfl (mK_Cl hM) (mP_to hM) ?_
    refine x_ald0 (n := 27) dX0_addClaim_26 rfl ?_
    refine x_getI (n := 30) flX0_27 rfl dX0_addClaim_27 rfl (mK_Cl hM) ?_
    rw [va_up_off n1, h4]
    refine x_ild2 (n := 31) dX0_addClaim_30 rfl ?_
    refine x_iastN (n := 32) dX0_addClaim_31 rfl (mA_to hM) (Nat.le_of_ble_eq_true rfl) (by omega) ?_
    refine x_ald0 (n := 33) dX0_addClaim_32 rfl ?_
    refine x_getR (n := 36) flX0_18 rfl dX0_addClaim_33 rfl (mK_Cl hM) (mP_cause hM) ?_
    refine x_ald0 (n := 37) dX0_addClaim_36 rfl ?_
    refine x_getI (n := 40) flX0_27 rfl dX0_addClaim_37 rfl (mK_Cl hM) ?_
    rw [va_up_off n2, va_up_off n1, h4]
    refine x_ild3 (n := 41) dX0_addClaim_40 rfl ?_
    refine x_iastN (n := 42) dX0_addClaim_41 rfl (mA_cause hM) (Nat.le_of_ble_eq_true rfl) (by omega) ?_
    refine x_ald0 (n := 43) dX0_addClaim_42 rfl ?_
    refine x_dup (n := 44) dX0_addClaim_43 rfl rfl ?_
    refine x_getI (n := 47) flX0_27 rfl dX0_addClaim_44 rfl (mK_Cl hM) ?_
    rw [va_up_off n3, va_up_off n2, va_up_off n1, h4]
    refine x_ic1 (n := 48) dX0_addClaim_47 rfl ?_
    refine x_iaddN (n := 49) dX0_addClaim_48 rfl ?_
    refine x_putI (n := 52) flX0_27 rfl (Or.inl rfl) rfl rfl dX0_addClaim_49 rfl (mK_Cl hM) ?_
    refine x_ald0 (n := 53) dX0_addClaim_52 rfl ?_
    refine x_getI (n := 56) flX0_27 rfl dX0_addClaim_53 rfl (mK_Cl hM) ?_
    rw [va_up_same, upd_same]
    refine x_ic1 (n := 57) dX0_addClaim_56 rfl ?_
    refine x_isubN (n := 58) dX0_addClaim_57 rfl (by omega) ?_
    rw [Nat.add_sub_cancel]
    refine r_iret dX0_addClaim_58 rfl ?_
    rw [if_neg (by omega)] at hq; rw [if_neg (by omega)] at hq
    refine hq _ (offM_up (offM_up (offM_up (up1 (by omega) (by omega)) (by omega) (by omega)) (by omega) (by omega)) (by omega) (by omega)) ?_
    have e2 : vN (gClaim g x y z) 4 = vN g 4 + 1 := by unfold gClaim; unfold vN; rw [upd_same, nI_toInt (by unfold vN at h20; omega)]; rfl
    refine CM_setC hC hm (fun a ha => ?_) (fun i i1 i2 => ?_) ?_
    · rw [va_up_off (by omega), va_up_off (by omega), va_up_off (by omega), va_up_off (by omega)]
    · unfold gClaim; rw [upd_off i1, upd_off (by omega), upd_off (by omega), upd_off (by omega)]
    · obtain ⟨p0, p1, p2⟩ := hC.2.2.2.2.1
      refine ⟨by omega, ?_, fun k hk => ?_⟩
      · rw [va_up_same, upd_same]; unfold gClaim; rw [upd_same]
      · rw [e2] at hk
        rw [va_up_off (show mk + 67 ≠ mk + 66 by omega), va_up_off (show mk + 67 ≠ mk + 69 by omega), va_up_off (show mk + 67 ≠ mk + 68 by omega), va_up_same, va_up_off (show mk + 68 ≠ mk + 66 by omega), va_up_off (show mk + 68 ≠ mk + 69 by omega), va_up_same, va_up_off (show mk + 68 ≠ mk + 67 by omega), va_up_off (show mk + 69 ≠ mk + 66 by omega), va_up_same, va_up_off (show mk + 69 ≠ mk + 68 by omega), va_up_off (show mk + 69 ≠ mk + 67 by omega)]
        unfold gClaim
        by_cases hkn : k = vN g 4
        · subst hkn
          rw [upd_same, upd_same, upd_same, upd_off (by omega), upd_off (by omega), upd_off (by omega), upd_same, upd_off (by omega), upd_off (by omega), upd_same, upd_off (by omega), upd_same]
          exact ⟨rfl, rfl, rfl⟩
        · rw [upd_off hkn, upd_off hkn, upd_off hkn, upd_off (by omega), upd_off (by omega), upd_off (by omega), upd_off (by omega), upd_off (by omega), upd_off (by omega), upd_off (by omega), upd_off (by omega), upd_off (by omega), upd_off (by omega), upd_off (by omega), upd_off (by omega)]
          exact p2 k (by omega)
  · refine x_ldc (n := 11) dX0_addClaim_9 rfl kiX0_37 ?_
    refine r_iret dX0_addClaim_11 rfl ?_
    rw [if_pos (by omega)] at hq; rw [if_pos (by omega)] at hq; exact hq I offM_refl hC
theorem c_X3_addFace (hM : ShM Z mk) (hC : CM Z I mk g) (hB : InvB g) (hm : mk < 200) {x y : Int32} (hq : ∀ I', offM mk I I' → CM Z I' mk (if vN g 6 = 6 then g else gFace g x y) → Q (some (.int (if vN g 6 = 6 then -1000000003 else nI (vN g 6)))) Z I') : zM l G mX3_addFace 0 0 0 [.ref (mk + 75), .int x, .int y] Z I Q := by
  refine x_entry [some (.ref (mk + 75)), some (.int x), some (.int y)] 0 rfl rfl (Nat.le_of_ble_eq_true rfl) ?_
  have h5 := vF6 hC.2.2.2.2.2.2.1 hB
  have h20 := (iv6 hB).2
  have n1 : mk + 75 ≠ mk + 76 := by omega
  have n2 : mk + 75 ≠ mk + 77 := by omega
  have n3 : mk + 77 ≠ mk + 76 := by omega
  refine x_ald0 (n := 1) dX3_addFace_0 rfl ?_
  refine x_getI (n := 4) flX3_24 rfl dX3_addFace_1 rfl (mK_Ma hM) ?_
  rw [h5]
  refine x_bipush (n := 6) (v := nI 6) dX3_addFace_4 rfl (by decide) ?_
  refine x_icmpN_lt (n := 9) (tgt := 12) dX3_addFace_6 rfl (by decide) (by omega) (by omega) (fun c_6 => ?_) (fun c_6 => ?_)
  · refine x_ald0 (n := 13) dX3_addFace_12 rfl ?_
    refine x_getR (n := 16) flX3_11 rfl dX3_addFace_13 rfl (mK_Ma hM) (mP_faceDay hM) ?_
    refine x_ald0 (n := 17) dX3_addFace_16 rfl ?_
    refine x_getI (n := 20) flX3_24 rfl dX3_addFace_17 rfl (mK_Ma hM) ?_
    rw [h5]
    refine x_ild1 (n := 21) dX3_addFace_20 rfl ?_
    refine x_iastN (n := 22) dX3_addFace_21 rfl (mA_faceDay hM) (Nat.le_of_ble_eq_true rfl) (by omega) ?_
    refine x_ald0 (n := 23) dX3_addFace_22 rfl ?_
    refine x_getR (n := 26) flX3_15 rfl dX3_addFace_23 rfl (mK_Ma hM) (mP_faceYards hM) ?_
    refine x_ald0 (n := 27) dX3_addFace_26 rfl ?_
    refine x_getI (n := 30) flX3_24 rfl dX3_addFace_27 rfl (mK_Ma hM) ?_
    rw [va_up_off n1, h5]
    refine x_ild2 (n := 31) dX3_addFace_30 rfl ?_
    refine x_iastN (n := 32) dX3_addFace_31 rfl (mA_faceYards hM) (Nat.le_of_ble_eq_true rfl) (by omega) ?_
    refine x_ald0 (n := 33) dX3_addFace_32 rfl ?_
    refine x_dup (n := 34) dX3_addFace_33 rfl rfl ?_
    refine x_getI (n := 37) flX3_24 rfl dX3_addFace_34 rfl (mK_Ma hM) ?_
    rw [va_up_off n2, va_up_off n1, h5]
    refine x_ic1 (n := 38) dX3_addFace_37 rfl ?_
    refine x_iaddN (n := 39) dX3_addFace_38 rfl ?_
    refine x_putI (n := 42) flX3_24 rfl (Or.inl rfl) rfl rfl dX3_addFace_39 rfl (mK_Ma hM) ?_
    refine x_ald0 (n := 43) dX3_addFace_42 rfl ?_
    refine x_getI (n := 46) flX3_24 rfl dX3_addFace_43 rfl (mK_Ma hM) ?_
    rw [va_up_same, upd_same]
    refine x_ic1 (n := 47) dX3_addFace_46 rfl ?_
    refine x_isubN (n := 48) dX3_addFace_47 rfl (by omega) ?_
    rw [Nat.add_sub_cancel]
    refine r_iret dX3_addFace_48 rfl ?_
    rw [if_neg (by omega)] at hq; rw [if_neg (by omega)] at hq
    refine hq _ (offM_up (offM_up (up1 (by omega) (by omega)) (by omega) (by omega)) (by omega) (by omega)) ?_
    have e2 : vN (gFace g x y) 6 = vN g 6 + 1 := by unfold gFace; unfold vN; rw [upd_same, nI_toInt (by unfold vN at h20; omega)]; rfl
    obtain ⟨⟨p0, p0'⟩, p1, p2, p3, p4⟩ := hC.2.2.2.2.2.2.1
    have e7 : gFace g x y 7 = g 7 := by unfold gFace; rw [upd_off (by omega), upd_off (by omega), upd_off (by omega)]
    refine CM_setF hC hm (fun a ha => ?_) (fun i i1 i2 i3 => ?_) ?_
    · rw [va_up_off (by omega), va_up_off (by omega), va_up_off (by omega)]
    · unfold gFace; rw [upd_off i1, upd_off (by omega), upd_off (by omega)]
    · unfold cmF
      rw [e2, vN_eq e7, e7]
      refine ⟨⟨by omega, p0'⟩, ?_, ?_, fun k hk => ?_, fun k hk => ?_⟩
      · rw [va_up_same, upd_same]; unfold gFace; rw [upd_same]
      · rw [va_up_same, upd_off (by omega), va_up_off n2, va_up_off n1]; exact p2
      · rw [va_up_off (show mk + 76 ≠ mk + 75 by omega), va_up_off (show mk + 76 ≠ mk + 77 by omega), va_up_same, va_up_off (show mk + 77 ≠ mk + 75 by omega), va_up_same, va_up_off n3]
        unfold gFace
        by_cases hkn : k = vN g 6
        · subst hkn
          rw [upd_same, upd_same, upd_off (by omega), upd_off (by omega), upd_same, upd_off (by omega), upd_same]
          exact ⟨rfl, rfl⟩
        · rw [upd_off hkn, upd_off hkn, upd_off (by omega), upd_off (by omega), upd_off (by omega), upd_off (by omega), upd_off (by omega), upd_off (by omega)]
          exact p3 k (by omega)
      · rw [va_up_off (by omega), va_up_off (by omega), va_up_off (by omega), p4 k hk]; unfold gFace; rw [upd_off (by omega), upd_off (by omega), upd_off (by omega)]
  · refine x_ldc (n := 11) dX3_addFace_9 rfl kiX3_37 ?_
    refine r_iret dX3_addFace_11 rfl ?_
    rw [if_pos (by omega)] at hq; rw [if_pos (by omega)] at hq; exact hq I offM_refl hC
theorem c_X3_addArch (hM : ShM Z mk) (hC : CM Z I mk g) (hB : InvB g) (hm : mk < 200) {x : Int32} (hq : ∀ I', offM mk I I' → CM Z I' mk (if vN g 7 = 8 then g else gArch g x) → Q (some (.int (if vN g 7 = 8 then -1000000003 else nI (vN g 7)))) Z I') : zM l G mX3_addArch 0 0 0 [.ref (mk + 75), .int x] Z I Q := by
  refine x_entry [some (.ref (mk + 75)), some (.int x)] 0 rfl rfl (Nat.le_of_ble_eq_true rfl) ?_
  have h5 := vF7 hC.2.2.2.2.2.2.1 hB
  have h20 := (iv7 hB).2
  have n1 : mk + 75 ≠ mk + 78 := by omega
  refine x_ald0 (n := 1) dX3_addArch_0 rfl ?_
  refine x_getI (n := 4) flX3_34 rfl dX3_addArch_1 rfl (mK_Ma hM) ?_
  rw [h5]
  refine x_bipush (n := 6) (v := nI 8) dX3_addArch_4 rfl (by decide) ?_
  refine x_icmpN_lt (n := 9) (tgt := 12) dX3_addArch_6 rfl (by decide) (by omega) (by omega) (fun c_6 => ?_) (fun c_6 => ?_)
  · refine x_ald0 (n := 13) dX3_addArch_12 rfl ?_
    refine x_getR (n := 16) flX3_18 rfl dX3_addArch_13 rfl (mK_Ma hM) (mP_thrust hM) ?_
    refine x_ald0 (n := 17) dX3_addArch_16 rfl ?_
    refine x_getI (n := 20) flX3_34 rfl dX3_addArch_17 rfl (mK_Ma hM) ?_
    rw [h5]
    refine x_ild1 (n := 21) dX3_addArch_20 rfl ?_
    refine x_iastN (n := 22) dX3_addArch_21 rfl (mA_thrust hM) (Nat.le_of_ble_eq_true rfl) (by omega) ?_
    refine x_ald0 (n := 23) dX3_addArch_22 rfl ?_
    refine x_dup (n := 24) dX3_addArch_23 rfl rfl ?_
    refine x_getI (n := 27) flX3_34 rfl dX3_addArch_24 rfl (mK_Ma hM) ?_
    rw [va_up_off n1, h5]
    refine x_ic1 (n := 28) dX3_addArch_27 rfl ?_
    refine x_iaddN (n := 29) dX3_addArch_28 rfl ?_
    refine x_putI (n := 32) flX3_34 rfl (Or.inl rfl) rfl rfl dX3_addArch_29 rfl (mK_Ma hM) ?_
    refine x_ald0 (n := 33) dX3_addArch_32 rfl ?_
    refine x_getI (n := 36) flX3_34 rfl dX3_addArch_33 rfl (mK_Ma hM) ?_
    rw [va_up_same, upd_same]
    refine x_ic1 (n := 37) dX3_addArch_36 rfl ?_
    refine x_isubN (n := 38) dX3_addArch_37 rfl (by omega) ?_
    rw [Nat.add_sub_cancel]
    refine r_iret dX3_addArch_38 rfl ?_
    rw [if_neg (by omega)] at hq; rw [if_neg (by omega)] at hq
    refine hq _ (offM_up (up1 (by omega) (by omega)) (by omega) (by omega)) ?_
    have e2 : vN (gArch g x) 7 = vN g 7 + 1 := by unfold gArch; unfold vN; rw [upd_same, nI_toInt (by unfold vN at h20; omega)]; rfl
    obtain ⟨⟨p0, p0'⟩, p1, p2, p3, p4⟩ := hC.2.2.2.2.2.2.1
    have e7 : gArch g x 6 = g 6 := by unfold gArch; rw [upd_off (by omega), upd_off (by omega)]
    refine CM_setF hC hm (fun a ha => ?_) (fun i i1 i2 i3 => ?_) ?_
    · rw [va_up_off (by omega), va_up_off (by omega)]
    · unfold gArch; rw [upd_off i2, upd_off (by omega)]
    · unfold cmF
      rw [e2, vN_eq e7, e7]
      refine ⟨⟨p0, by omega⟩, ?_, ?_, fun k hk => ?_, fun k hk => ?_⟩
      · rw [va_up_same, upd_off (by omega), va_up_off n1]; exact p1
      · rw [va_up_same, upd_same]; unfold gArch; rw [upd_same]
      · rw [va_up_off (by omega), va_up_off (by omega), va_up_off (by omega), va_up_off (by omega)]
        unfold gArch
        rw [upd_off (by omega), upd_off (by omega), upd_off (by omega), upd_off (by omega)]; exact p3 k hk
      · rw [va_up_off (show mk + 78 ≠ mk + 75 by omega), va_up_same]
        unfold gArch
        by_cases hkn : k = vN g 7
        · subst hkn
          rw [upd_same, upd_off (by omega), upd_same]
        · rw [upd_off hkn, upd_off (by omega), upd_off (by omega)]
          exact p4 k (by omega)
  · refine x_ldc (n := 11) dX3_addArch_9 rfl kiX3_37 ?_
    refine r_iret dX3_addArch_11 rfl ?_
    rw [if_pos (by omega)] at hq; rw [if_pos (by omega)] at hq; exact hq I offM_refl hC
end
