section
variable {l : Launch} {G : zG} {Z : zS} {I : zI} {g : Nat → Int32} {Q : Option Value → zS → zI → Prop}
theorem c_X12_isThrough (hZ : ShR Z) {k n : Nat} (hk : k < 24) (h1 : g 1 = nI n) (hn : n ≤ 24) (hq : Q (some (.int (zb (decide (k < n) && decide (g (120 + 10 * k + 3) = g (120 + 10 * k + 2)))))) Z (va_up I q_s g)) : zM l G mX12_isThrough 2 0 0 [.ref qR, .int (nI k)] Z (va_up I q_s g) Q := by
  refine x_entry [some (.ref qR), some (.int (nI k))] 0 rfl rfl (Nat.le_of_ble_eq_true rfl) ?_
  have hz : zin (nI k) 0 ((n : Int) - 1) = decide (k < n) := by
    unfold zin; rw [nI_toInt (by omega)]; by_cases h : k < n
    · rw [decide_eq_true h]; exact decide_eq_true (by omega)
    · rw [decide_eq_false h]; exact decide_eq_false (by omega)
  refine x_ald0 (n := 1) dX12_isThrough_0 rfl ?_
  refine x_ild1 (n := 2) dX12_isThrough_1 rfl ?_
  refine x_cV1 (n := 5) (d' := 1) zcX12_isWork mlX12_156 dX12_isThrough_2 rfl (rK hZ) (Nat.le_of_ble_eq_true rfl) (Nat.le_of_ble_eq_true rfl) ?_
  refine c_X12_isWork hZ h1 (by omega) ?_
  rw [hz]
  refine x_some ?_
  refine x_zif_eq (n := 8) (tgt := 39) dX12_isThrough_5 rfl (by decide) (fun c_5 => ?_) (fun c_5 => ?_)
  · refine x_ic0 (n := 40) dX12_isThrough_39 rfl ?_
    refine r_zret dX12_isThrough_40 rfl (by first | exact nar0 | exact nar1 | exact zb_nar _) ?_
    first | exact zq_t hq (by rw [c_5, decide_eq_true c_32]; rfl) | exact zq_f hq (by rw [c_5]; rfl) | exact zq_f hq (by rw [c_5, decide_eq_false c_32]; rfl)
  · refine x_ald0 (n := 9) dX12_isThrough_8 rfl ?_
    refine x_getR (n := 12) flX12_7 rfl dX12_isThrough_9 rfl (rK hZ) (rP_s hZ) ?_
    refine x_ald0 (n := 13) dX12_isThrough_12 rfl ?_
    refine x_ild1 (n := 14) dX12_isThrough_13 rfl ?_
    refine x_cV1 (n := 17) (d' := 0) zcX12_workAt mlX12_93 dX12_isThrough_14 rfl (rK hZ) (Nat.le_of_ble_eq_true rfl) (Nat.le_of_ble_eq_true rfl) ?_
    refine c_X12_workAt ?_
    refine x_some ?_
    refine x_ic3 (n := 18) dX12_isThrough_17 rfl ?_
    refine x_iaddN (n := 19) dX12_isThrough_18 rfl ?_
    refine x_sld (n := 20) dX12_isThrough_19 rfl hZ (by omega) ?_
    refine x_ald0 (n := 21) dX12_isThrough_20 rfl ?_
    refine x_getR (n := 24) flX12_7 rfl dX12_isThrough_21 rfl (rK hZ) (rP_s hZ) ?_
    refine x_ald0 (n := 25) dX12_isThrough_24 rfl ?_
    refine x_ild1 (n := 26) dX12_isThrough_25 rfl ?_
    refine x_cV1 (n := 29) (d' := 0) zcX12_workAt mlX12_93 dX12_isThrough_26 rfl (rK hZ) (Nat.le_of_ble_eq_true rfl) (Nat.le_of_ble_eq_true rfl) ?_
    refine c_X12_workAt ?_
    refine x_some ?_
    refine x_ic2 (n := 30) dX12_isThrough_29 rfl ?_
    refine x_iaddN (n := 31) dX12_isThrough_30 rfl ?_
    refine x_sld (n := 32) dX12_isThrough_31 rfl hZ (by omega) ?_
    refine x_icmp_ne (n := 35) (tgt := 39) dX12_isThrough_32 rfl (by decide) (fun c_32 => ?_) (fun c_32 => ?_)
    · refine x_ic0 (n := 40) dX12_isThrough_39 rfl ?_
      refine r_zret dX12_isThrough_40 rfl (by first | exact nar0 | exact nar1 | exact zb_nar _) ?_
      first | exact zq_t hq (by rw [c_5, decide_eq_true c_32]; rfl) | exact zq_f hq (by rw [c_5]; rfl) | exact zq_f hq (by rw [c_5, decide_eq_false c_32]; rfl)
    · refine x_ic1 (n := 36) dX12_isThrough_35 rfl ?_
      refine x_goto (n := 40) dX12_isThrough_36 (by decide) ?_
      refine r_zret dX12_isThrough_40 rfl (by first | exact nar0 | exact nar1 | exact zb_nar _) ?_
      first | exact zq_t hq (by rw [c_5, decide_eq_true c_32]; rfl) | exact zq_f hq (by rw [c_5]; rfl) | exact zq_f hq (by rw [c_5, decide_eq_false c_32]; rfl)
theorem c_X12_isSlipping (hZ : ShR Z) (hC : RfC I) (hB : InvB g) {c : Nat} (hc : c < vN g 0) (hq : Q (some (.int (zb (gSlips g c)))) Z (va_up I q_s g)) : zM l G mX12_isSlipping 3 0 0 [.ref qR, .int (nI c)] Z (va_up I q_s g) Q := by
  have h0 := iv0 hB
  have h1 := iv1 hB
  have hs := (ivC hB hc).2.2.1
  have hs1 := rg_nI hs (by omega) (by omega)
  have hs2 := rg_le hs (by omega)
  refine x_entry [some (.ref qR), some (.int (nI c))] 0 rfl rfl (Nat.le_of_ble_eq_true rfl) ?_
  refine x_ald0 (n := 1) dX12_isSlipping_0 rfl ?_
  refine x_ild1 (n := 2) dX12_isSlipping_1 rfl ?_
  refine x_cV1 (n := 5) (d' := 1) zcX12_depth mlX12_117 dX12_isSlipping_2 rfl (rK hZ) (Nat.le_of_ble_eq_true rfl) (Nat.le_of_ble_eq_true rfl) ?_
  refine c_X12_depth hZ (by omega) ?_
  refine x_some ?_
  refine x_ald0 (n := 6) dX12_isSlipping_5 rfl ?_
  refine x_getR (n := 9) flX12_31 rfl dX12_isSlipping_6 rfl (rK hZ) (rP_stands hZ) ?_
  refine x_ald0 (n := 10) dX12_isSlipping_9 rfl ?_
  refine x_getR (n := 13) flX12_7 rfl dX12_isSlipping_10 rfl (rK hZ) (rP_s hZ) ?_
  refine x_ald0 (n := 14) dX12_isSlipping_13 rfl ?_
  refine x_ild1 (n := 15) dX12_isSlipping_14 rfl ?_
  refine x_cV1 (n := 18) (d' := 0) zcX12_chainAt mlX12_84 dX12_isSlipping_15 rfl (rK hZ) (Nat.le_of_ble_eq_true rfl) (Nat.le_of_ble_eq_true rfl) ?_
  refine c_X12_chainAt ?_
  refine x_some ?_
  refine x_ic2 (n := 19) dX12_isSlipping_18 rfl ?_
  refine x_iaddN (n := 20) dX12_isSlipping_19 rfl ?_
  refine x_sld (n := 21) dX12_isSlipping_20 rfl hZ (by omega) ?_
  rw [hs1]
  refine x_old (n := 22) dX12_isSlipping_21 rfl (rA_stands hZ) (by decide) (Nat.le_of_ble_eq_true rfl) (by omega) ?_
  rw [hC.2.1 _ (by omega)]
  refine x_icmp_le (n := 25) (tgt := 38) dX12_isSlipping_22 rfl (by decide) (fun c_22 => ?_) (fun c_22 => ?_)
  · refine x_ic0 (n := 39) dX12_isSlipping_38 rfl ?_
    refine r_zret dX12_isSlipping_39 rfl (by first | exact nar0 | exact nar1 | exact zb_nar _) ?_
    have hz := zct_le (g_at g (nI c) (nI 5)) (vN g 1)
    have e1 : nI (zct (g_at g (nI c) (nI 5)) (vN g 1)) = 0 ↔ zct (g_at g (nI c) (nI 5)) (vN g 1) = 0 := nI_eq (a := zct (g_at g (nI c) (nI 5)) (vN g 1)) (b := 0) (by omega) (by omega)
    unfold gSlips standsF at hq
    first | exact zq_t hq (by rw [decide_eq_true (Int32.not_le.mp c_22), decide_eq_true (e1.mp c_31)]; rfl) | exact zq_f hq (by rw [decide_eq_false (fun h => c_31 (e1.mpr h)), Bool.and_false]) | exact zq_f hq (by rw [decide_eq_false (Int32.not_lt.mpr c_22)]; rfl)
  · refine x_ald0 (n := 26) dX12_isSlipping_25 rfl ?_
    refine x_ild1 (n := 27) dX12_isSlipping_26 rfl ?_
    refine x_ic5 (n := 28) dX12_isSlipping_27 rfl ?_
    refine x_cV2 (n := 31) (d' := 2) zcX12_worksAt mlX12_120 dX12_isSlipping_28 rfl (rK hZ) (Nat.le_of_ble_eq_true rfl) (Nat.le_of_ble_eq_true rfl) ?_
    refine c_X12_worksAt hZ h1.1 h1.2 ?_
    refine x_some ?_
    refine x_if_ne (n := 34) (tgt := 38) dX12_isSlipping_31 rfl (by decide) (fun c_31 => ?_) (fun c_31 => ?_)
    · refine x_ic0 (n := 39) dX12_isSlipping_38 rfl ?_
      refine r_zret dX12_isSlipping_39 rfl (by first | exact nar0 | exact nar1 | exact zb_nar _) ?_
      have hz := zct_le (g_at g (nI c) (nI 5)) (vN g 1)
      have e1 : nI (zct (g_at g (nI c) (nI 5)) (vN g 1)) = 0 ↔ zct (g_at g (nI c) (nI 5)) (vN g 1) = 0 := nI_eq (a := zct (g_at g (nI c) (nI 5)) (vN g 1)) (b := 0) (by omega) (by omega)
      unfold gSlips standsF at hq
      first | exact zq_t hq (by rw [decide_eq_true (Int32.not_le.mp c_22), decide_eq_true (e1.mp c_31)]; rfl) | exact zq_f hq (by rw [decide_eq_false (fun h => c_31 (e1.mpr h)), Bool.and_false]) | exact zq_f hq (by rw [decide_eq_false (Int32.not_lt.mpr c_22)]; rfl)
    · refine x_ic1 (n := 35) dX12_isSlipping_34 rfl ?_
      refine x_goto (n := 39) dX12_isSlipping_35 (by decide) ?_
      refine r_zret dX12_isSlipping_39 rfl (by first | exact nar0 | exact nar1 | exact zb_nar _) ?_
      have hz := zct_le (g_at g (nI c) (nI 5)) (vN g 1)
      have e1 : nI (zct (g_at g (nI c) (nI 5)) (vN g 1)) = 0 ↔ zct (g_at g (nI c) (nI 5)) (vN g 1) = 0 := nI_eq (a := zct (g_at g (nI c) (nI 5)) (vN g 1)) (b := 0) (by omega) (by omega)
      unfold gSlips standsF at hq
      first | exact zq_t hq (by rw [decide_eq_true (Int32.not_le.mp c_22), decide_eq_true (e1.mp c_31)]; rfl) | exact zq_f hq (by rw [decide_eq_false (fun h => c_31 (e1.mpr h)), Bool.and_false]) | exact zq_f hq (by rw [decide_eq_false (Int32.not_lt.mpr c_22)]; rfl)
theorem l_X12_foretold (hZ : ShR Z) (hC : RfC I) (hB : InvB g) (hq : Q (some (.int (foreF g (vN g 0)))) Z (va_up I q_s g)) : ∀ m k, k ≤ vN g 0 → vN g 0 - k < m → zX l G mX12_foretold 4 0 0 4 [some (.ref qR), some (.int (foreF g k)), some (.int (nI k))] [] Z (va_up I q_s g) Q := by
  have h0 := iv0 hB
  have h1 := iv1 hB
  intro m
  induction m with
  | zero => intro k _ h; exact absurd h (by omega)
  | succ m ih =>
    intro k hk hm
    refine x_ild2 (n := 5) dX12_foretold_4 rfl ?_
    refine x_ald0 (n := 6) dX12_foretold_5 rfl ?_
    refine x_getR (n := 9) flX12_7 rfl dX12_foretold_6 rfl (rK hZ) (rP_s hZ) ?_
    refine x_ic0 (n := 10) dX12_foretold_9 rfl ?_
    refine x_sld (n := 11) dX12_foretold_10 rfl hZ (by omega) ?_
    rw [h0.1]
    refine x_icmpN_ge (n := 14) (tgt := 62) dX12_foretold_11 rfl (by decide) (by omega) (by omega) (fun c_11 => ?_) (fun c_11 => ?_)
    · refine x_ild1 (n := 63) dX12_foretold_62 rfl ?_
      refine r_iret dX12_foretold_63 rfl ?_
      rw [show k = vN g 0 by omega]; exact hq
    · refine x_ild1 (n := 15) dX12_foretold_14 rfl ?_
      refine x_ald0 (n := 16) dX12_foretold_15 rfl ?_
      refine x_getR (n := 19) flX12_7 rfl dX12_foretold_16 rfl (rK hZ) (rP_s hZ) ?_
      refine x_ald0 (n := 20) dX12_foretold_19 rfl ?_
      refine x_ild2 (n := 21) dX12_foretold_20 rfl ?_
      refine x_cV1 (n := 24) (d' := 0) zcX12_chainAt mlX12_84 dX12_foretold_21 rfl (rK hZ) (Nat.le_of_ble_eq_true rfl) (Nat.le_of_ble_eq_true rfl) ?_
      refine c_X12_chainAt ?_
      refine x_some ?_
      refine x_ic3 (n := 25) dX12_foretold_24 rfl ?_
      refine x_iaddN (n := 26) dX12_foretold_25 rfl ?_
      refine x_sld (n := 27) dX12_foretold_26 rfl hZ (by omega) ?_
      refine x_if_lt (n := 30) (tgt := 53) dX12_foretold_27 rfl (by decide) (fun c_27 => ?_) (fun c_27 => ?_)
      · refine x_ic0 (n := 54) dX12_foretold_53 rfl ?_
        refine x_ior (n := 55) dX12_foretold_54 rfl ?_
        refine x_ist1 (n := 56) dX12_foretold_55 rfl (by decide) rfl ?_
        refine x_iincN2 (n := 59) (k := 1) dX12_foretold_56 rfl (by decide) rfl ?_
        refine x_goto (n := 4) dX12_foretold_59 (by decide) ?_
        have hz := zct_le (g_at g (nI k) (nI 1)) (vN g 1)
        have ih' := ih (k + 1) (by omega) (by omega)
        rw [show foreF g (k + 1) = foreF g k ||| if g_fore g k = true then nI 1 <<< (nI k &&& 31) else nI 0 from rfl] at ih'
        rw [zlt, Int32.toInt_zero] at c_27
        try rw [zle, nI_toInt (by omega), Int32.toInt_zero] at c_36
        unfold g_fore at ih'
        first | (rw [if_pos (by rw [decide_eq_true (by omega), decide_eq_true (by omega), c_44]; rfl)] at ih'; exact ih') | (rw [if_neg (by rw [c_44, Bool.and_false]; decide)] at ih'; exact ih') | (rw [if_neg (by rw [decide_eq_false (by omega : ¬ (0 < zct (g_at g (nI k) (nI 1)) (vN g 1))), Bool.and_false, Bool.false_and]; decide)] at ih'; exact ih') | (rw [if_neg (by rw [decide_eq_false (by omega : ¬ (0 ≤ (g (20 + 4 * k + 3)).toInt)), Bool.false_and, Bool.false_and]; decide)] at ih'; exact ih')
      · refine x_ald0 (n := 31) dX12_foretold_30 rfl ?_
        refine x_ild2 (n := 32) dX12_foretold_31 rfl ?_
        refine x_ic1 (n := 33) dX12_foretold_32 rfl ?_
        refine x_cV2 (n := 36) (d' := 2) zcX12_worksAt mlX12_120 dX12_foretold_33 rfl (rK hZ) (Nat.le_of_ble_eq_true rfl) (Nat.le_of_ble_eq_true rfl) ?_
        refine c_X12_worksAt hZ h1.1 h1.2 ?_
        refine x_some ?_
        refine x_if_le (n := 39) (tgt := 53) dX12_foretold_36 rfl (by decide) (fun c_36 => ?_) (fun c_36 => ?_)
        · refine x_ic0 (n := 54) dX12_foretold_53 rfl ?_
          refine x_ior (n := 55) dX12_foretold_54 rfl ?_
          refine x_ist1 (n := 56) dX12_foretold_55 rfl (by decide) rfl ?_
          refine x_iincN2 (n := 59) (k := 1) dX12_foretold_56 rfl (by decide) rfl ?_
          refine x_goto (n := 4) dX12_foretold_59 (by decide) ?_
          have hz := zct_le (g_at g (nI k) (nI 1)) (vN g 1)
          have ih' := ih (k + 1) (by omega) (by omega)
          rw [show foreF g (k + 1) = foreF g k ||| if g_fore g k = true then nI 1 <<< (nI k &&& 31) else nI 0 from rfl] at ih'
          rw [zlt, Int32.toInt_zero] at c_27
          try rw [zle, nI_toInt (by omega), Int32.toInt_zero] at c_36
          unfold g_fore at ih'
          first | (rw [if_pos (by rw [decide_eq_true (by omega), decide_eq_true (by omega), c_44]; rfl)] at ih'; exact ih') | (rw [if_neg (by rw [c_44, Bool.and_false]; decide)] at ih'; exact ih') | (rw [if_neg (by rw [decide_eq_false (by omega : ¬ (0 < zct (g_at g (nI k) (nI 1)) (vN g 1))), Bool.and_false, Bool.false_and]; decide)] at ih'; exact ih') | (rw [if_neg (by rw [decide_eq_false (by omega : ¬ (0 ≤ (g (20 + 4 * k + 3)).toInt)), Bool.false_and, Bool.false_and]; decide)] at ih'; exact ih')
        · refine x_ald0 (n := 40) dX12_foretold_39 rfl ?_
          refine x_ild2 (n := 41) dX12_foretold_40 rfl ?_
          refine x_cV1 (n := 44) (d' := 3) zcX12_isSlipping mlX12_184 dX12_foretold_41 rfl (rK hZ) (Nat.le_of_ble_eq_true rfl) (Nat.le_of_ble_eq_true rfl) ?_
          refine c_X12_isSlipping hZ hC hB (by omega) ?_
          refine x_some ?_
          refine x_zif_eq (n := 47) (tgt := 53) dX12_foretold_44 rfl (by decide) (fun c_44 => ?_) (fun c_44 => ?_)
          · refine x_ic0 (n := 54) dX12_foretold_53 rfl ?_
            refine x_ior (n := 55) dX12_foretold_54 rfl ?_
            refine x_ist1 (n := 56) dX12_foretold_55 rfl (by decide) rfl ?_
            refine x_iincN2 (n := 59) (k := 1) dX12_foretold_56 rfl (by decide) rfl ?_
            refine x_goto (n := 4) dX12_foretold_59 (by decide) ?_
            have hz := zct_le (g_at g (nI k) (nI 1)) (vN g 1)
            have ih' := ih (k + 1) (by omega) (by omega)
            rw [show foreF g (k + 1) = foreF g k ||| if g_fore g k = true then nI 1 <<< (nI k &&& 31) else nI 0 from rfl] at ih'
            rw [zlt, Int32.toInt_zero] at c_27
            try rw [zle, nI_toInt (by omega), Int32.toInt_zero] at c_36
            unfold g_fore at ih'
            first | (rw [if_pos (by rw [decide_eq_true (by omega), decide_eq_true (by omega), c_44]; rfl)] at ih'; exact ih') | (rw [if_neg (by rw [c_44, Bool.and_false]; decide)] at ih'; exact ih') | (rw [if_neg (by rw [decide_eq_false (by omega : ¬ (0 < zct (g_at g (nI k) (nI 1)) (vN g 1))), Bool.and_false, Bool.false_and]; decide)] at ih'; exact ih') | (rw [if_neg (by rw [decide_eq_false (by omega : ¬ (0 ≤ (g (20 + 4 * k + 3)).toInt)), Bool.false_and, Bool.false_and]; decide)] at ih'; exact ih')
          · refine x_ic1 (n := 48) dX12_foretold_47 rfl ?_
            refine x_ild2 (n := 49) dX12_foretold_48 rfl ?_
            refine x_ishl (n := 50) dX12_foretold_49 rfl ?_
            refine x_goto (n := 54) dX12_foretold_50 (by decide) ?_
            refine x_ior (n := 55) dX12_foretold_54 rfl ?_
            refine x_ist1 (n := 56) dX12_foretold_55 rfl (by decide) rfl ?_
            refine x_iincN2 (n := 59) (k := 1) dX12_foretold_56 rfl (by decide) rfl ?_
            refine x_goto (n := 4) dX12_foretold_59 (by decide) ?_
            have hz := zct_le (g_at g (nI k) (nI 1)) (vN g 1)
            have ih' := ih (k + 1) (by omega) (by omega)
            rw [show foreF g (k + 1) = foreF g k ||| if g_fore g k = true then nI 1 <<< (nI k &&& 31) else nI 0 from rfl] at ih'
            rw [zlt, Int32.toInt_zero] at c_27
            try rw [zle, nI_toInt (by omega), Int32.toInt_zero] at c_36
            unfold g_fore at ih'
            first | (rw [if_pos (by rw [decide_eq_true (by omega), decide_eq_true (by omega), c_44]; rfl)] at ih'; exact ih') | (rw [if_neg (by rw [c_44, Bool.and_false]; decide)] at ih'; exact ih') | (rw [if_neg (by rw [decide_eq_false (by omega : ¬ (0 < zct (g_at g (nI k) (nI 1)) (vN g 1))), Bool.and_false, Bool.false_and]; decide)] at ih'; exact ih') | (rw [if_neg (by rw [decide_eq_false (by omega : ¬ (0 ≤ (g (20 + 4 * k + 3)).toInt)), Bool.false_and, Bool.false_and]; decide)] at ih'; exact ih')
theorem c_X12_foretold (hZ : ShR Z) (hC : RfC I) (hB : InvB g) (hq : Q (some (.int (f_foretold g))) Z (va_up I q_s g)) : zM l G mX12_foretold 4 0 0 [.ref qR] Z (va_up I q_s g) Q := by
  refine x_entry [some (.ref qR), none, none] 2 rfl rfl (Nat.le_of_ble_eq_true rfl) ?_
  refine x_ic0 (n := 1) dX12_foretold_0 rfl ?_
  refine x_ist1 (n := 2) dX12_foretold_1 rfl (by decide) rfl ?_
  refine x_ic0 (n := 3) dX12_foretold_2 rfl ?_
  refine x_ist2 (n := 4) dX12_foretold_3 rfl (by decide) rfl ?_
  exact l_X12_foretold hZ hC hB hq (vN g 0 + 1) 0 (by omega) (by omega)
theorem l_X12_duesOn (hZ : ShR Z) {d : Int32} (h5 : g 5 = nI (vN g 5)) (h52 : vN g 5 ≤ 20) (hq : Q (some (.int (duesF g d (vN g 5)))) Z (va_up I q_s g)) : ∀ m k, k ≤ vN g 5 → vN g 5 - k < m → zX l G mX12_duesOn 0 0 0 4 [some (.ref qR), some (.int d), some (.int (duesF g d k)), some (.int (nI k))] [] Z (va_up I q_s g) Q := by
  intro m
  induction m with
  | zero => intro k _ h; exact absurd h (by omega)
  | succ m ih =>
    intro k hk hm
    refine x_ild3 (n := 5) dX12_duesOn_4 rfl ?_
    refine x_ald0 (n := 6) dX12_duesOn_5 rfl ?_
    refine x_getR (n := 9) flX12_7 rfl dX12_duesOn_6 rfl (rK hZ) (rP_s hZ) ?_
    refine x_ic5 (n := 10) dX12_duesOn_9 rfl ?_
    refine x_sld (n := 11) dX12_duesOn_10 rfl hZ (by omega) ?_
    rw [h5]
    refine x_icmpN_ge (n := 14) (tgt := 57) dX12_duesOn_11 rfl (by decide) (by omega) (by omega) (fun c_11 => ?_) (fun c_11 => ?_)
    · refine x_ild2 (n := 58) dX12_duesOn_57 rfl ?_
      refine r_iret dX12_duesOn_58 rfl ?_
      rw [show k = vN g 5 by omega]; exact hq
    · refine x_ild2 (n := 15) dX12_duesOn_14 rfl ?_
      refine x_ald0 (n := 16) dX12_duesOn_15 rfl ?_
      refine x_getR (n := 19) flX12_7 rfl dX12_duesOn_16 rfl (rK hZ) (rP_s hZ) ?_
      refine x_sipush (n := 22) (v := nI 440) dX12_duesOn_19 rfl (by decide) ?_
      refine x_ic2 (n := 23) dX12_duesOn_22 rfl ?_
      refine x_ild3 (n := 24) dX12_duesOn_23 rfl ?_
      refine x_imulN (n := 25) dX12_duesOn_24 rfl ?_
      refine x_iaddN (n := 26) dX12_duesOn_25 rfl ?_
      refine x_sld (n := 27) dX12_duesOn_26 rfl hZ (by omega) ?_
      refine x_ild1 (n := 28) dX12_duesOn_27 rfl ?_
      refine x_icmp_ne (n := 31) (tgt := 48) dX12_duesOn_28 rfl (by decide) (fun c_28 => ?_) (fun c_28 => ?_)
      · refine x_ic0 (n := 49) dX12_duesOn_48 rfl ?_
        refine x_iadd (n := 50) dX12_duesOn_49 rfl ?_
        refine x_ist2 (n := 51) dX12_duesOn_50 rfl (by decide) rfl ?_
        refine x_iincN3 (n := 54) (k := 1) dX12_duesOn_51 rfl (by decide) rfl ?_
        refine x_goto (n := 4) dX12_duesOn_54 (by decide) ?_
        have ih' := ih (k + 1) (by omega) (by omega)
        rw [show duesF g d (k + 1) = duesF g d k + if g (440 + 2 * k) = d then g (440 + 2 * k + 1) else nI 0 from rfl] at ih'
        first | (rw [if_pos c_28] at ih'; exact ih') | (rw [if_neg c_28] at ih'; exact ih')
      · refine x_ald0 (n := 32) dX12_duesOn_31 rfl ?_
        refine x_getR (n := 35) flX12_7 rfl dX12_duesOn_32 rfl (rK hZ) (rP_s hZ) ?_
        refine x_sipush (n := 38) (v := nI 440) dX12_duesOn_35 rfl (by decide) ?_
        refine x_ic2 (n := 39) dX12_duesOn_38 rfl ?_
        refine x_ild3 (n := 40) dX12_duesOn_39 rfl ?_
        refine x_imulN (n := 41) dX12_duesOn_40 rfl ?_
        refine x_iaddN (n := 42) dX12_duesOn_41 rfl ?_
        refine x_ic1 (n := 43) dX12_duesOn_42 rfl ?_
        refine x_iaddN (n := 44) dX12_duesOn_43 rfl ?_
        refine x_sld (n := 45) dX12_duesOn_44 rfl hZ (by omega) ?_
        refine x_goto (n := 49) dX12_duesOn_45 (by decide) ?_
        refine x_iadd (n := 50) dX12_duesOn_49 rfl ?_
        refine x_ist2 (n := 51) dX12_duesOn_50 rfl (by decide) rfl ?_
        refine x_iincN3 (n := 54) (k := 1) dX12_duesOn_51 rfl (by decide) rfl ?_
        refine x_goto (n := 4) dX12_duesOn_54 (by decide) ?_
        have ih' := ih (k + 1) (by omega) (by omega)
        rw [show duesF g d (k + 1) = duesF g d k + if g (440 + 2 * k) = d then g (440 + 2 * k + 1) else nI 0 from rfl] at ih'
        first | (rw [if_pos c_28] at ih'; exact ih') | (rw [if_neg c_28] at ih'; exact ih')
theorem c_X12_duesOn (hZ : ShR Z) {d : Int32} (h5 : g 5 = nI (vN g 5)) (h52 : vN g 5 ≤ 20) (hq : Q (some (.int (duesF g d (vN g 5)))) Z (va_up I q_s g)) : zM l G mX12_duesOn 0 0 0 [.ref qR, .int d] Z (va_up I q_s g) Q := by
  refine x_entry [some (.ref qR), some (.int d), none, none] 2 rfl rfl (Nat.le_of_ble_eq_true rfl) ?_
  refine x_ic0 (n := 1) dX12_duesOn_0 rfl ?_
  refine x_ist2 (n := 2) dX12_duesOn_1 rfl (by decide) rfl ?_
  refine x_ic0 (n := 3) dX12_duesOn_2 rfl ?_
  refine x_ist3 (n := 4) dX12_duesOn_3 rfl (by decide) rfl ?_
  exact l_X12_duesOn hZ h5 h52 hq (vN g 5 + 1) 0 (by omega) (by omega)
end
