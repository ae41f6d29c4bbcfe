section
variable {l : Launch} {G : zG} {Z : zS} {I : zI} {g : Nat → Int32} {Q : Option Value → zS → zI → Prop}
theorem c_X12_wetG (hZ : ShR Z) {k : Nat} (hk : k < 10000) (hq : Q (some (.int (gWet g k))) Z (va_up I q_s g)) : zM l G mX12_wetOn 0 0 0 [.ref qR, .int (nI k)] Z (va_up I q_s g) Q := c_X12_wetOn hZ hk hq
theorem l_X12_works (hZ : ShR Z) (hC : RfC I) (hB : InvB g) {k w : Nat} (hk : k < vN g 2) (hw : w < vN g 1) (hn : Q none Z (va_up I q_s (if gReady g w = true then upd g (120 + 10 * w + 3) (minI (g (120 + 10 * w + 2)) (g (120 + 10 * w + 3) + g (360 + 2 * k) * gRate g w (gWet g (vN g 8)) / nI 10)) else g))) : ∀ m j, j ≤ 24 → 24 - j < m → (∀ i, i < j → (!gBit (g (120 + 10 * w + 5)) i || gThr g i) = true) → zX l G mX12_works 3 0 0 27 [some (.ref qR), some (.int (nI k)), some (.int (nI w)), some (.int (nI (120 + 10 * w))), some (.int (nI j))] [] Z (va_up I q_s g) Q := by
  have h1 := iv1 hB
  have h2 := iv2 hB
  have h8 := iv8 hB
  intro m
  induction m with
  | zero => intro k _ h; exact absurd h (by omega)
  | succ m ih =>
    intro j hj hm hall
    refine x_ild4 (n := 29) dX12_works_27 rfl ?_
    refine x_bipush (n := 31) (v := nI 24) dX12_works_29 rfl (by decide) ?_
    refine x_icmpN_ge (n := 34) (tgt := 67) dX12_works_31 rfl (by decide) (by omega) (by omega) (fun c_31 => ?_) (fun c_31 => ?_)
    · rw [if_pos (show gReady g w = true from zal_t.mpr (fun i hi => hall i (by omega)))] at hn
      refine x_ald0 (n := 68) dX12_works_67 rfl ?_
      refine x_getR (n := 71) flX12_7 rfl dX12_works_68 rfl (rK hZ) (rP_s hZ) ?_
      refine x_ild3 (n := 72) dX12_works_71 rfl ?_
      refine x_ic3 (n := 73) dX12_works_72 rfl ?_
      refine x_iaddN (n := 74) dX12_works_73 rfl ?_
      refine x_ald0 (n := 75) dX12_works_74 rfl ?_
      refine x_getR (n := 78) flX12_7 rfl dX12_works_75 rfl (rK hZ) (rP_s hZ) ?_
      refine x_ild3 (n := 79) dX12_works_78 rfl ?_
      refine x_ic2 (n := 80) dX12_works_79 rfl ?_
      refine x_iaddN (n := 81) dX12_works_80 rfl ?_
      refine x_sld (n := 82) dX12_works_81 rfl hZ (by omega) ?_
      refine x_ald0 (n := 83) dX12_works_82 rfl ?_
      refine x_getR (n := 86) flX12_7 rfl dX12_works_83 rfl (rK hZ) (rP_s hZ) ?_
      refine x_ild3 (n := 87) dX12_works_86 rfl ?_
      refine x_ic3 (n := 88) dX12_works_87 rfl ?_
      refine x_iaddN (n := 89) dX12_works_88 rfl ?_
      refine x_sld (n := 90) dX12_works_89 rfl hZ (by omega) ?_
      refine x_ald0 (n := 91) dX12_works_90 rfl ?_
      refine x_getR (n := 94) flX12_7 rfl dX12_works_91 rfl (rK hZ) (rP_s hZ) ?_
      refine x_ald0 (n := 95) dX12_works_94 rfl ?_
      refine x_ild1 (n := 96) dX12_works_95 rfl ?_
      refine x_cV1 (n := 99) (d' := 0) zcX12_gangAt mlX12_177 dX12_works_96 rfl (rK hZ) (Nat.le_of_ble_eq_true rfl) (Nat.le_of_ble_eq_true rfl) ?_
      refine c_X12_gangAt ?_
      refine x_some ?_
      refine x_sld (n := 100) dX12_works_99 rfl hZ (by omega) ?_
      refine x_ald0 (n := 101) dX12_works_100 rfl ?_
      refine x_ild2 (n := 102) dX12_works_101 rfl ?_
      refine x_ald0 (n := 103) dX12_works_102 rfl ?_
      refine x_ald0 (n := 104) dX12_works_103 rfl ?_
      refine x_getR (n := 107) flX12_7 rfl dX12_works_104 rfl (rK hZ) (rP_s hZ) ?_
      refine x_bipush (n := 109) (v := nI 8) dX12_works_107 rfl (by decide) ?_
      refine x_sld (n := 110) dX12_works_109 rfl hZ (by omega) ?_
      rw [h8.1]
      refine x_cV1 (n := 113) (d' := 0) zcX12_wetOn mlX12_162 dX12_works_110 rfl (rK hZ) (Nat.le_of_ble_eq_true rfl) (Nat.le_of_ble_eq_true rfl) ?_
      refine c_X12_wetG hZ (by omega) ?_
      refine x_some ?_
      refine x_cV2 (n := 116) (d' := 2) zcX12_rateOf mlX12_165 dX12_works_113 rfl (rK hZ) (Nat.le_of_ble_eq_true rfl) (Nat.le_of_ble_eq_true rfl) ?_
      refine c_X12_rateOf hZ hC hB hw ?_
      refine x_some ?_
      refine x_imul (n := 117) dX12_works_116 rfl ?_
      refine x_bipush (n := 119) (v := nI 10) dX12_works_117 rfl (by decide) ?_
      refine x_idiv (n := 120) dX12_works_119 rfl (by decide) ?_
      refine x_iadd (n := 121) dX12_works_120 rfl ?_
      refine x_cS2 (n := 124) (d' := 0) zcX12_least mlX12_142 dX12_works_121 rfl (Nat.le_of_ble_eq_true rfl) (Nat.le_of_ble_eq_true rfl) ?_
      refine c_X12_least ?_
      refine x_some ?_
      refine x_sst (n := 125) dX12_works_124 rfl hZ (by omega) ?_
      refine r_vret dX12_works_125 rfl ?_
      exact hn
    · refine x_ald0 (n := 35) dX12_works_34 rfl ?_
      refine x_getR (n := 38) flX12_7 rfl dX12_works_35 rfl (rK hZ) (rP_s hZ) ?_
      refine x_ild3 (n := 39) dX12_works_38 rfl ?_
      refine x_ic5 (n := 40) dX12_works_39 rfl ?_
      refine x_iaddN (n := 41) dX12_works_40 rfl ?_
      refine x_sld (n := 42) dX12_works_41 rfl hZ (by omega) ?_
      refine x_ild4 (n := 44) dX12_works_42 rfl ?_
      refine x_ishr (n := 45) dX12_works_44 rfl ?_
      refine x_ic1 (n := 46) dX12_works_45 rfl ?_
      refine x_iand (n := 47) dX12_works_46 rfl ?_
      refine x_ic1 (n := 48) dX12_works_47 rfl ?_
      refine x_icmp_ne (n := 51) (tgt := 61) dX12_works_48 rfl (by decide) (fun c_48 => ?_) (fun c_48 => ?_)
      · refine x_iincN4 (n := 64) (k := 1) dX12_works_61 rfl (by decide) rfl ?_
        refine x_goto (n := 27) dX12_works_64 (by decide) ?_
        refine ih (j + 1) (by omega) (by omega) (fun i hi => ?_)
        by_cases hij : i = j
        · subst hij
          first | (rw [show gThr g i = true from c_57, Bool.or_true]) | (rw [show gBit (g (120 + 10 * w + 5)) i = false from decide_eq_false c_48]; rfl)
        · exact hall i (by omega)
      · refine x_ald0 (n := 52) dX12_works_51 rfl ?_
        refine x_ild4 (n := 54) dX12_works_52 rfl ?_
        refine x_cV1 (n := 57) (d' := 2) zcX12_isThrough mlX12_187 dX12_works_54 rfl (rK hZ) (Nat.le_of_ble_eq_true rfl) (Nat.le_of_ble_eq_true rfl) ?_
        refine c_X12_isThrough hZ (by omega) h1.1 h1.2 ?_
        refine x_some ?_
        refine x_zif_ne (n := 60) (tgt := 61) dX12_works_57 rfl (by decide) (fun c_57 => ?_) (fun c_57 => ?_)
        · refine x_iincN4 (n := 64) (k := 1) dX12_works_61 rfl (by decide) rfl ?_
          refine x_goto (n := 27) dX12_works_64 (by decide) ?_
          refine ih (j + 1) (by omega) (by omega) (fun i hi => ?_)
          by_cases hij : i = j
          · subst hij
            first | (rw [show gThr g i = true from c_57, Bool.or_true]) | (rw [show gBit (g (120 + 10 * w + 5)) i = false from decide_eq_false c_48]; rfl)
          · exact hall i (by omega)
        · refine r_vret dX12_works_60 rfl ?_
          have hnr : ¬ gReady g w = true := by
            intro h9
            have h10 := zal_t.mp h9 j (by omega)
            rw [show gBit (g (120 + 10 * w + 5)) j = true from decide_eq_true c_48, show gThr g j = false from c_57] at h10
            cases h10
          rw [if_neg hnr] at hn; exact hn
theorem c_X12_works (hZ : ShR Z) (hC : RfC I) (hB : InvB g) {k : Nat} (hk : k < vN g 2) (hq : Q none Z (va_up I q_s (gLab g k))) : zM l G mX12_works 3 0 0 [.ref qR, .int (nI k)] Z (va_up I q_s g) Q := by
  have h1 := iv1 hB
  have h2 := iv2 hB
  have hg := ivG hB hk
  refine x_entry [some (.ref qR), some (.int (nI k)), none, none, none] 3 rfl rfl (Nat.le_of_ble_eq_true rfl) ?_
  unfold gLab at hq
  refine x_ald0 (n := 1) dX12_works_0 rfl ?_
  refine x_getR (n := 4) flX12_7 rfl dX12_works_1 rfl (rK hZ) (rP_s hZ) ?_
  refine x_ald0 (n := 5) dX12_works_4 rfl ?_
  refine x_ild1 (n := 6) dX12_works_5 rfl ?_
  refine x_cV1 (n := 9) (d' := 0) zcX12_gangAt mlX12_177 dX12_works_6 rfl (rK hZ) (Nat.le_of_ble_eq_true rfl) (Nat.le_of_ble_eq_true rfl) ?_
  refine c_X12_gangAt ?_
  refine x_some ?_
  refine x_ic1 (n := 10) dX12_works_9 rfl ?_
  refine x_iaddN (n := 11) dX12_works_10 rfl ?_
  refine x_sld (n := 12) dX12_works_11 rfl hZ (by omega) ?_
  refine x_ist2 (n := 13) dX12_works_12 rfl (by decide) rfl ?_
  refine x_ild2 (n := 14) dX12_works_13 rfl ?_
  refine x_if_ge (n := 17) (tgt := 18) dX12_works_14 rfl (by decide) (fun c_14 => ?_) (fun c_14 => ?_)
  · rw [zle, Int32.toInt_zero] at c_14
    rw [if_neg (by omega)] at hq
    have hv := rg_nI (g := g) (i := 360 + 2 * k + 1) (lo := 0) (hi := (vN g 1 : Int) - 1) ⟨by omega, hg.2.2⟩ (by omega) (by omega)
    have hv2 := rg_le (g := g) (i := 360 + 2 * k + 1) (lo := 0) (hi := (vN g 1 : Int) - 1) ⟨by omega, hg.2.2⟩ (by omega)
    rw [hv]
    refine x_ald0 (n := 19) dX12_works_18 rfl ?_
    refine x_ild2 (n := 20) dX12_works_19 rfl ?_
    refine x_cV1 (n := 23) (d' := 0) zcX12_workAt mlX12_93 dX12_works_20 rfl (rK hZ) (Nat.le_of_ble_eq_true rfl) (Nat.le_of_ble_eq_true rfl) ?_
    refine c_X12_workAt ?_
    refine x_some ?_
    refine x_ist3 (n := 24) dX12_works_23 rfl (by decide) rfl ?_
    refine x_ic0 (n := 25) dX12_works_24 rfl ?_
    refine x_ist4 (n := 27) dX12_works_25 rfl (by decide) rfl ?_
    exact l_X12_works hZ hC hB hk (by omega) hq 25 0 (by omega) (by omega) (fun i h => absurd h (by omega))
  · refine r_vret dX12_works_17 rfl ?_
    rw [zle, Int32.toInt_zero] at c_14; rw [if_pos (by omega)] at hq; exact hq
theorem l_X12_slips (hZ : ShR Z) (hB : InvB g) {c : Nat} (kk : zX l G mX12_slips 4 0 0 70 [some (.ref qR), some (.int (nI c)), some (.int (zb (decide (0 < zct (gBegun g c) (vN g 1))))), some (.int (nI (vN g 1))), none] [] Z (va_up I q_s g) Q) : ∀ m k, k ≤ vN g 1 → vN g 1 - k < m → zX l G mX12_slips 4 0 0 4 [some (.ref qR), some (.int (nI c)), some (.int (zb (decide (0 < zct (gBegun g c) k)))), some (.int (nI k)), none] [] Z (va_up I q_s g) Q := by
  have h1 := iv1 hB
  intro m
  induction m with
  | zero => intro k _ h; exact absurd h (by omega)
  | succ m ih =>
    intro k hk hm
    have step1 : ∀ b : Bool, b = decide (0 < zct (gBegun g c) (k + 1)) → k + 1 ≤ vN g 1 → zX l G mX12_slips 4 0 0 4 [some (.ref qR), some (.int (nI c)), some (.int (zb b)), some (.int (nI (k + 1))), none] [] Z (va_up I q_s g) Q := by
      intro b hb hk1; rw [hb]; exact ih (k + 1) hk1 (by omega)
    have hs : zct (gBegun g c) (k + 1) = zct (gBegun g c) k + if gBegun g c k = true then 1 else 0 := rfl
    refine x_ild3 (n := 5) dX12_slips_4 rfl ?_
    refine x_ald0 (n := 6) dX12_slips_5 rfl ?_
    refine x_getR (n := 9) flX12_7 rfl dX12_slips_6 rfl (rK hZ) (rP_s hZ) ?_
    refine x_ic1 (n := 10) dX12_slips_9 rfl ?_
    refine x_sld (n := 11) dX12_slips_10 rfl hZ (by omega) ?_
    rw [h1.1]
    refine x_icmpN_ge (n := 14) (tgt := 70) dX12_slips_11 rfl (by decide) (by omega) (by omega) (fun c_11 => ?_) (fun c_11 => ?_)
    · rw [show k = vN g 1 by omega]; exact kk
    · refine x_ild2 (n := 15) dX12_slips_14 rfl ?_
      refine x_zif_ne (n := 18) (tgt := 58) dX12_slips_15 rfl (by decide) (fun c_15 => ?_) (fun c_15 => ?_)
      · refine x_ic1 (n := 59) dX12_slips_58 rfl ?_
        refine x_goto (n := 63) dX12_slips_59 (by decide) ?_
        refine x_ist2 (n := 64) dX12_slips_63 rfl (by decide) rfl ?_
        refine x_iincN3 (n := 67) (k := 1) dX12_slips_64 rfl (by decide) rfl ?_
        refine x_goto (n := 4) dX12_slips_67 (by decide) ?_
        first | exact step1 true (by symm; apply decide_eq_true; have := of_decide_eq_true c_15; omega) (by omega) | exact step1 true (by symm; apply decide_eq_true; rw [hs, if_pos (show gBegun g c k = true from decide_eq_true ⟨c_31, c_40, Int32.not_le.mp c_55⟩)]; omega) (by omega) | exact step1 false (by symm; apply decide_eq_false; have := of_decide_eq_false c_15; rw [hs, if_neg (by unfold gBegun; rw [decide_eq_true_eq]; exact fun h => c_31 h.1)]; omega) (by omega) | exact step1 false (by symm; apply decide_eq_false; have := of_decide_eq_false c_15; rw [hs, if_neg (by unfold gBegun; rw [decide_eq_true_eq]; exact fun h => c_40 h.2.1)]; omega) (by omega) | exact step1 false (by symm; apply decide_eq_false; have := of_decide_eq_false c_15; rw [hs, if_neg (by unfold gBegun; rw [decide_eq_true_eq]; exact fun h => Int32.not_le.mpr h.2.2 c_55)]; omega) (by omega)
      · refine x_ald0 (n := 19) dX12_slips_18 rfl ?_
        refine x_getR (n := 22) flX12_7 rfl dX12_slips_19 rfl (rK hZ) (rP_s hZ) ?_
        refine x_ald0 (n := 23) dX12_slips_22 rfl ?_
        refine x_ild3 (n := 24) dX12_slips_23 rfl ?_
        refine x_cV1 (n := 27) (d' := 0) zcX12_workAt mlX12_93 dX12_slips_24 rfl (rK hZ) (Nat.le_of_ble_eq_true rfl) (Nat.le_of_ble_eq_true rfl) ?_
        refine c_X12_workAt ?_
        refine x_some ?_
        refine x_ic1 (n := 28) dX12_slips_27 rfl ?_
        refine x_iaddN (n := 29) dX12_slips_28 rfl ?_
        refine x_sld (n := 30) dX12_slips_29 rfl hZ (by omega) ?_
        refine x_ild1 (n := 31) dX12_slips_30 rfl ?_
        refine x_icmp_ne (n := 34) (tgt := 62) dX12_slips_31 rfl (by decide) (fun c_31 => ?_) (fun c_31 => ?_)
        · refine x_ic0 (n := 63) dX12_slips_62 rfl ?_
          refine x_ist2 (n := 64) dX12_slips_63 rfl (by decide) rfl ?_
          refine x_iincN3 (n := 67) (k := 1) dX12_slips_64 rfl (by decide) rfl ?_
          refine x_goto (n := 4) dX12_slips_67 (by decide) ?_
          first | exact step1 true (by symm; apply decide_eq_true; have := of_decide_eq_true c_15; omega) (by omega) | exact step1 true (by symm; apply decide_eq_true; rw [hs, if_pos (show gBegun g c k = true from decide_eq_true ⟨c_31, c_40, Int32.not_le.mp c_55⟩)]; omega) (by omega) | exact step1 false (by symm; apply decide_eq_false; have := of_decide_eq_false c_15; rw [hs, if_neg (by unfold gBegun; rw [decide_eq_true_eq]; exact fun h => c_31 h.1)]; omega) (by omega) | exact step1 false (by symm; apply decide_eq_false; have := of_decide_eq_false c_15; rw [hs, if_neg (by unfold gBegun; rw [decide_eq_true_eq]; exact fun h => c_40 h.2.1)]; omega) (by omega) | exact step1 false (by symm; apply decide_eq_false; have := of_decide_eq_false c_15; rw [hs, if_neg (by unfold gBegun; rw [decide_eq_true_eq]; exact fun h => Int32.not_le.mpr h.2.2 c_55)]; omega) (by omega)
        · refine x_ald0 (n := 35) dX12_slips_34 rfl ?_
          refine x_ild3 (n := 36) dX12_slips_35 rfl ?_
          refine x_cV1 (n := 39) (d' := 1) zcX12_kindOf mlX12_114 dX12_slips_36 rfl (rK hZ) (Nat.le_of_ble_eq_true rfl) (Nat.le_of_ble_eq_true rfl) ?_
          refine c_X12_kindOf hZ (by omega) ?_
          refine x_some ?_
          refine x_ic1 (n := 40) dX12_slips_39 rfl ?_
          refine x_icmp_ne (n := 43) (tgt := 62) dX12_slips_40 rfl (by decide) (fun c_40 => ?_) (fun c_40 => ?_)
          · refine x_ic0 (n := 63) dX12_slips_62 rfl ?_
            refine x_ist2 (n := 64) dX12_slips_63 rfl (by decide) rfl ?_
            refine x_iincN3 (n := 67) (k := 1) dX12_slips_64 rfl (by decide) rfl ?_
            refine x_goto (n := 4) dX12_slips_67 (by decide) ?_
            first | exact step1 true (by symm; apply decide_eq_true; have := of_decide_eq_true c_15; omega) (by omega) | exact step1 true (by symm; apply decide_eq_true; rw [hs, if_pos (show gBegun g c k = true from decide_eq_true ⟨c_31, c_40, Int32.not_le.mp c_55⟩)]; omega) (by omega) | exact step1 false (by symm; apply decide_eq_false; have := of_decide_eq_false c_15; rw [hs, if_neg (by unfold gBegun; rw [decide_eq_true_eq]; exact fun h => c_31 h.1)]; omega) (by omega) | exact step1 false (by symm; apply decide_eq_false; have := of_decide_eq_false c_15; rw [hs, if_neg (by unfold gBegun; rw [decide_eq_true_eq]; exact fun h => c_40 h.2.1)]; omega) (by omega) | exact step1 false (by symm; apply decide_eq_false; have := of_decide_eq_false c_15; rw [hs, if_neg (by unfold gBegun; rw [decide_eq_true_eq]; exact fun h => Int32.not_le.mpr h.2.2 c_55)]; omega) (by omega)
          · refine x_ald0 (n := 44) dX12_slips_43 rfl ?_
            refine x_getR (n := 47) flX12_7 rfl dX12_slips_44 rfl (rK hZ) (rP_s hZ) ?_
            refine x_ald0 (n := 48) dX12_slips_47 rfl ?_
            refine x_ild3 (n := 49) dX12_slips_48 rfl ?_
            refine x_cV1 (n := 52) (d' := 0) zcX12_workAt mlX12_93 dX12_slips_49 rfl (rK hZ) (Nat.le_of_ble_eq_true rfl) (Nat.le_of_ble_eq_true rfl) ?_
            refine c_X12_workAt ?_
            refine x_some ?_
            refine x_ic3 (n := 53) dX12_slips_52 rfl ?_
            refine x_iaddN (n := 54) dX12_slips_53 rfl ?_
            refine x_sld (n := 55) dX12_slips_54 rfl hZ (by omega) ?_
            refine x_if_le (n := 58) (tgt := 62) dX12_slips_55 rfl (by decide) (fun c_55 => ?_) (fun c_55 => ?_)
            · refine x_ic0 (n := 63) dX12_slips_62 rfl ?_
              refine x_ist2 (n := 64) dX12_slips_63 rfl (by decide) rfl ?_
              refine x_iincN3 (n := 67) (k := 1) dX12_slips_64 rfl (by decide) rfl ?_
              refine x_goto (n := 4) dX12_slips_67 (by decide) ?_
              first | exact step1 true (by symm; apply decide_eq_true; have := of_decide_eq_true c_15; omega) (by omega) | exact step1 true (by symm; apply decide_eq_true; rw [hs, if_pos (show gBegun g c k = true from decide_eq_true ⟨c_31, c_40, Int32.not_le.mp c_55⟩)]; omega) (by omega) | exact step1 false (by symm; apply decide_eq_false; have := of_decide_eq_false c_15; rw [hs, if_neg (by unfold gBegun; rw [decide_eq_true_eq]; exact fun h => c_31 h.1)]; omega) (by omega) | exact step1 false (by symm; apply decide_eq_false; have := of_decide_eq_false c_15; rw [hs, if_neg (by unfold gBegun; rw [decide_eq_true_eq]; exact fun h => c_40 h.2.1)]; omega) (by omega) | exact step1 false (by symm; apply decide_eq_false; have := of_decide_eq_false c_15; rw [hs, if_neg (by unfold gBegun; rw [decide_eq_true_eq]; exact fun h => Int32.not_le.mpr h.2.2 c_55)]; omega) (by omega)
            · refine x_ic1 (n := 59) dX12_slips_58 rfl ?_
              refine x_goto (n := 63) dX12_slips_59 (by decide) ?_
              refine x_ist2 (n := 64) dX12_slips_63 rfl (by decide) rfl ?_
              refine x_iincN3 (n := 67) (k := 1) dX12_slips_64 rfl (by decide) rfl ?_
              refine x_goto (n := 4) dX12_slips_67 (by decide) ?_
              first | exact step1 true (by symm; apply decide_eq_true; have := of_decide_eq_true c_15; omega) (by omega) | exact step1 true (by symm; apply decide_eq_true; rw [hs, if_pos (show gBegun g c k = true from decide_eq_true ⟨c_31, c_40, Int32.not_le.mp c_55⟩)]; omega) (by omega) | exact step1 false (by symm; apply decide_eq_false; have := of_decide_eq_false c_15; rw [hs, if_neg (by unfold gBegun; rw [decide_eq_true_eq]; exact fun h => c_31 h.1)]; omega) (by omega) | exact step1 false (by symm; apply decide_eq_false; have := of_decide_eq_false c_15; rw [hs, if_neg (by unfold gBegun; rw [decide_eq_true_eq]; exact fun h => c_40 h.2.1)]; omega) (by omega) | exact step1 false (by symm; apply decide_eq_false; have := of_decide_eq_false c_15; rw [hs, if_neg (by unfold gBegun; rw [decide_eq_true_eq]; exact fun h => Int32.not_le.mpr h.2.2 c_55)]; omega) (by omega)
theorem c_X12_slips (hZ : ShR Z) (hC : RfC I) (hB : InvB g) {c : Nat} (hc : c < vN g 0) (hq : Q none Z (va_up I q_s (gSlip g c))) : zM l G mX12_slips 4 0 0 [.ref qR, .int (nI c)] Z (va_up I q_s g) Q := by
  have h0 := iv0 hB
  have h1 := iv1 hB
  have h8 := iv8 hB
  refine x_entry [some (.ref qR), some (.int (nI c)), none, none, none] 3 rfl rfl (Nat.le_of_ble_eq_true rfl) ?_
  unfold gSlip at hq
  have rest : zX l G mX12_slips 4 0 0 112 [some (.ref qR), some (.int (nI c)), some (.int (zb (decide (0 < zct (gBegun g c) (vN g 1))))), some (.int (zb (gSoak g c))), none] [] Z (va_up I q_s g) Q := by
    refine x_ild2 (n := 113) dX12_slips_112 rfl ?_
    refine x_zif_eq (n := 116) (tgt := 152) dX12_slips_113 rfl (by decide) (fun c_113 => ?_) (fun c_113 => ?_)
    · refine r_vret dX12_slips_152 rfl ?_
      first | (rw [if_pos ⟨of_decide_eq_true c_113, c_117, c_125, by omega⟩] at hq; exact hq) | (rw [if_neg (fun h => by have := h.2.2.2; omega)] at hq; exact hq) | (rw [if_neg (fun h => by rw [c_125] at h; exact Bool.noConfusion h.2.2.1)] at hq; exact hq) | (rw [if_neg (fun h => by rw [c_117] at h; exact Bool.noConfusion h.2.1)] at hq; exact hq) | (rw [if_neg (fun h => (of_decide_eq_false c_113) h.1)] at hq; exact hq)
    · refine x_ild3 (n := 117) dX12_slips_116 rfl ?_
      refine x_zif_eq (n := 120) (tgt := 152) dX12_slips_117 rfl (by decide) (fun c_117 => ?_) (fun c_117 => ?_)
      · refine r_vret dX12_slips_152 rfl ?_
        first | (rw [if_pos ⟨of_decide_eq_true c_113, c_117, c_125, by omega⟩] at hq; exact hq) | (rw [if_neg (fun h => by have := h.2.2.2; omega)] at hq; exact hq) | (rw [if_neg (fun h => by rw [c_125] at h; exact Bool.noConfusion h.2.2.1)] at hq; exact hq) | (rw [if_neg (fun h => by rw [c_117] at h; exact Bool.noConfusion h.2.1)] at hq; exact hq) | (rw [if_neg (fun h => (of_decide_eq_false c_113) h.1)] at hq; exact hq)
      · refine x_ald0 (n := 121) dX12_slips_120 rfl ?_
        refine x_ild1 (n := 122) dX12_slips_121 rfl ?_
        refine x_cV1 (n := 125) (d' := 3) zcX12_isSlipping mlX12_184 dX12_slips_122 rfl (rK hZ) (Nat.le_of_ble_eq_true rfl) (Nat.le_of_ble_eq_true rfl) ?_
        refine c_X12_isSlipping hZ hC hB hc ?_
        refine x_some ?_
        refine x_zif_eq (n := 128) (tgt := 152) dX12_slips_125 rfl (by decide) (fun c_125 => ?_) (fun c_125 => ?_)
        · refine r_vret dX12_slips_152 rfl ?_
          first | (rw [if_pos ⟨of_decide_eq_true c_113, c_117, c_125, by omega⟩] at hq; exact hq) | (rw [if_neg (fun h => by have := h.2.2.2; omega)] at hq; exact hq) | (rw [if_neg (fun h => by rw [c_125] at h; exact Bool.noConfusion h.2.2.1)] at hq; exact hq) | (rw [if_neg (fun h => by rw [c_117] at h; exact Bool.noConfusion h.2.1)] at hq; exact hq) | (rw [if_neg (fun h => (of_decide_eq_false c_113) h.1)] at hq; exact hq)
        · refine x_ald0 (n := 129) dX12_slips_128 rfl ?_
          refine x_getR (n := 132) flX12_7 rfl dX12_slips_129 rfl (rK hZ) (rP_s hZ) ?_
          refine x_ic1 (n := 133) dX12_slips_132 rfl ?_
          refine x_sld (n := 134) dX12_slips_133 rfl hZ (by omega) ?_
          rw [h1.1]
          refine x_bipush (n := 136) (v := nI 24) dX12_slips_134 rfl (by decide) ?_
          refine x_icmpN_ge (n := 139) (tgt := 152) dX12_slips_136 rfl (by decide) (by omega) (by omega) (fun c_136 => ?_) (fun c_136 => ?_)
          · refine r_vret dX12_slips_152 rfl ?_
            first | (rw [if_pos ⟨of_decide_eq_true c_113, c_117, c_125, by omega⟩] at hq; exact hq) | (rw [if_neg (fun h => by have := h.2.2.2; omega)] at hq; exact hq) | (rw [if_neg (fun h => by rw [c_125] at h; exact Bool.noConfusion h.2.2.1)] at hq; exact hq) | (rw [if_neg (fun h => by rw [c_117] at h; exact Bool.noConfusion h.2.1)] at hq; exact hq) | (rw [if_neg (fun h => (of_decide_eq_false c_113) h.1)] at hq; exact hq)
          · refine x_ald0 (n := 140) dX12_slips_139 rfl ?_
            refine x_ic5 (n := 141) dX12_slips_140 rfl ?_
            refine x_ild1 (n := 142) dX12_slips_141 rfl ?_
            refine x_ald0 (n := 143) dX12_slips_142 rfl ?_
            refine x_ild1 (n := 144) dX12_slips_143 rfl ?_
            refine x_cV1 (n := 147) (d' := 1) zcX12_depth mlX12_117 dX12_slips_144 rfl (rK hZ) (Nat.le_of_ble_eq_true rfl) (Nat.le_of_ble_eq_true rfl) ?_
            refine c_X12_depth hZ (by omega) ?_
            refine x_some ?_
            refine x_cV3 (n := 150) (d' := 1) zcX12_newWork mlX12_150 dX12_slips_147 rfl (rK hZ) (Nat.le_of_ble_eq_true rfl) (Nat.le_of_ble_eq_true rfl) ?_
            refine c_X12_newWork hZ h1.1 (by omega) ?_
            refine x_some ?_
            refine x_ist4 (n := 152) dX12_slips_150 rfl (by decide) rfl ?_
            refine r_vret dX12_slips_152 rfl ?_
            first | (rw [if_pos ⟨of_decide_eq_true c_113, c_117, c_125, by omega⟩] at hq; exact hq) | (rw [if_neg (fun h => by have := h.2.2.2; omega)] at hq; exact hq) | (rw [if_neg (fun h => by rw [c_125] at h; exact Bool.noConfusion h.2.2.1)] at hq; exact hq) | (rw [if_neg (fun h => by rw [c_117] at h; exact Bool.noConfusion h.2.1)] at hq; exact hq) | (rw [if_neg (fun h => (of_decide_eq_false c_113) h.1)] at hq; exact hq)
  have mid : zX l G mX12_slips 4 0 0 70 [some (.ref qR), some (.int (nI c)), some (.int (zb (decide (0 < zct (gBegun g c) (vN g 1))))), some (.int (nI (vN g 1))), none] [] Z (va_up I q_s g) Q := by
    refine x_ald0 (n := 71) dX12_slips_70 rfl ?_
    refine x_ald0 (n := 72) dX12_slips_71 rfl ?_
    refine x_getR (n := 75) flX12_7 rfl dX12_slips_72 rfl (rK hZ) (rP_s hZ) ?_
    refine x_bipush (n := 77) (v := nI 8) dX12_slips_75 rfl (by decide) ?_
    refine x_sld (n := 78) dX12_slips_77 rfl hZ (by omega) ?_
    rw [h8.1]
    refine x_cV1 (n := 81) (d' := 0) zcX12_wetOn mlX12_162 dX12_slips_78 rfl (rK hZ) (Nat.le_of_ble_eq_true rfl) (Nat.le_of_ble_eq_true rfl) ?_
    refine c_X12_wetG hZ (by omega) ?_
    refine x_some ?_
    refine x_ald0 (n := 82) dX12_slips_81 rfl ?_
    refine x_getR (n := 85) flX12_7 rfl dX12_slips_82 rfl (rK hZ) (rP_s hZ) ?_
    refine x_ald0 (n := 86) dX12_slips_85 rfl ?_
    refine x_ild1 (n := 87) dX12_slips_86 rfl ?_
    refine x_cV1 (n := 90) (d' := 0) zcX12_chainAt mlX12_84 dX12_slips_87 rfl (rK hZ) (Nat.le_of_ble_eq_true rfl) (Nat.le_of_ble_eq_true rfl) ?_
    refine c_X12_chainAt ?_
    refine x_some ?_
    refine x_ic2 (n := 91) dX12_slips_90 rfl ?_
    refine x_iaddN (n := 92) dX12_slips_91 rfl ?_
    refine x_sld (n := 93) dX12_slips_92 rfl hZ (by omega) ?_
    refine x_ic2 (n := 94) dX12_slips_93 rfl ?_
    refine x_icmp_ne (n := 97) (tgt := 101) dX12_slips_94 rfl (by decide) (fun c_94 => ?_) (fun c_94 => ?_)
    · refine x_bipush (n := 103) (v := nI 6) dX12_slips_101 rfl (by decide) ?_
      refine x_icmp_le (n := 106) (tgt := 110) dX12_slips_103 rfl (by decide) (fun c_103 => ?_) (fun c_103 => ?_)
      · refine x_ic0 (n := 111) dX12_slips_110 rfl ?_
        refine x_top (y := zb (gSoak g c)) ?_ ?_
        · unfold gSoak
          first | (rw [if_pos c_94, decide_eq_true (Int32.not_le.mp c_103)]; rfl) | (rw [if_pos c_94, decide_eq_false (Int32.not_lt.mpr c_103)]; rfl) | (rw [if_neg c_94, decide_eq_true (Int32.not_le.mp c_103)]; rfl) | (rw [if_neg c_94, decide_eq_false (Int32.not_lt.mpr c_103)]; rfl)
        refine x_ist3 (n := 112) dX12_slips_111 rfl (by decide) rfl ?_
        exact rest
      · refine x_ic1 (n := 107) dX12_slips_106 rfl ?_
        refine x_goto (n := 111) dX12_slips_107 (by decide) ?_
        refine x_top (y := zb (gSoak g c)) ?_ ?_
        · unfold gSoak
          first | (rw [if_pos c_94, decide_eq_true (Int32.not_le.mp c_103)]; rfl) | (rw [if_pos c_94, decide_eq_false (Int32.not_lt.mpr c_103)]; rfl) | (rw [if_neg c_94, decide_eq_true (Int32.not_le.mp c_103)]; rfl) | (rw [if_neg c_94, decide_eq_false (Int32.not_lt.mpr c_103)]; rfl)
        refine x_ist3 (n := 112) dX12_slips_111 rfl (by decide) rfl ?_
        exact rest
    · refine x_ic4 (n := 98) dX12_slips_97 rfl ?_
      refine x_goto (n := 103) dX12_slips_98 (by decide) ?_
      refine x_icmp_le (n := 106) (tgt := 110) dX12_slips_103 rfl (by decide) (fun c_103 => ?_) (fun c_103 => ?_)
      · refine x_ic0 (n := 111) dX12_slips_110 rfl ?_
        refine x_top (y := zb (gSoak g c)) ?_ ?_
        · unfold gSoak
          first | (rw [if_pos c_94, decide_eq_true (Int32.not_le.mp c_103)]; rfl) | (rw [if_pos c_94, decide_eq_false (Int32.not_lt.mpr c_103)]; rfl) | (rw [if_neg c_94, decide_eq_true (Int32.not_le.mp c_103)]; rfl) | (rw [if_neg c_94, decide_eq_false (Int32.not_lt.mpr c_103)]; rfl)
        refine x_ist3 (n := 112) dX12_slips_111 rfl (by decide) rfl ?_
        exact rest
      · refine x_ic1 (n := 107) dX12_slips_106 rfl ?_
        refine x_goto (n := 111) dX12_slips_107 (by decide) ?_
        refine x_top (y := zb (gSoak g c)) ?_ ?_
        · unfold gSoak
          first | (rw [if_pos c_94, decide_eq_true (Int32.not_le.mp c_103)]; rfl) | (rw [if_pos c_94, decide_eq_false (Int32.not_lt.mpr c_103)]; rfl) | (rw [if_neg c_94, decide_eq_true (Int32.not_le.mp c_103)]; rfl) | (rw [if_neg c_94, decide_eq_false (Int32.not_lt.mpr c_103)]; rfl)
        refine x_ist3 (n := 112) dX12_slips_111 rfl (by decide) rfl ?_
        exact rest
  refine x_ic0 (n := 1) dX12_slips_0 rfl ?_
  refine x_ist2 (n := 2) dX12_slips_1 rfl (by decide) rfl ?_
  refine x_ic0 (n := 3) dX12_slips_2 rfl ?_
  refine x_ist3 (n := 4) dX12_slips_3 rfl (by decide) rfl ?_
  exact l_X12_slips hZ hB mid (vN g 1 + 1) 0 (by omega) (by omega)
end
