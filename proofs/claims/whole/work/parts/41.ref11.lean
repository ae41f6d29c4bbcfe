def f_measure (g : Nat → Int32) (x h v : Int32) : Int32 × (Nat → Int32) := if zin x 0 ((vN g 1 : Int) - 1) = true ∧ zin h 0 1 = true ∧ zin v 0 9999 = true then (g (120 + 10 * ix x + 7 + ix h), upd g (120 + 10 * ix x + 7 + ix h) v) else (-1000000001, g)
def g_quar (g : Nat → Int32) (w : Nat) : Bool := decide (g (120 + 10 * w + 7) ≠ g (120 + 10 * w + 8))
def f_quarrels (g : Nat → Int32) : Int32 := nI (zct (g_quar g) (vN g 1))
def gClaim (g : Nat → Int32) (a b c : Int32) : Nat → Int32 := upd (upd (upd (upd g (380 + 3 * vN g 4) a) (380 + 3 * vN g 4 + 1) b) (380 + 3 * vN g 4 + 2) c) 4 (nI (vN g 4 + 1))
def f_claim (g : Nat → Int32) (a b c : Int32) : Int32 × (Nat → Int32) := if zin a 0 1999 = true ∧ zin b a.toInt 1999 = true ∧ zin c 0 3 = true then (if vN g 4 = 20 then (-1000000003, g) else (nI (vN g 4), gClaim g a b c)) else (-1000000001, g)
def f_call (g : Nat → Int32) (x : Int32) : Int32 × (Nat → Int32) := if zin x 1 99999 = true then (g 9 + x, upd g 9 (g 9 + x)) else (-1000000001, g)
def gDue (g : Nat → Int32) (a b : Int32) : Nat → Int32 := upd (upd (upd g (440 + 2 * vN g 5) a) (440 + 2 * vN g 5 + 1) b) 5 (nI (vN g 5 + 1))
def f_due (g : Nat → Int32) (a b : Int32) : Int32 × (Nat → Int32) := if zin a (g 8).toInt 1999 = true ∧ zin b (-99999) 99999 = true then (if vN g 5 = 20 then (-1000000003, g) else (nI (vN g 5), gDue g a b)) else (-1000000001, g)
def gFace (g : Nat → Int32) (a b : Int32) : Nat → Int32 := upd (upd (upd g (480 + 2 * vN g 6) a) (480 + 2 * vN g 6 + 1) b) 6 (nI (vN g 6 + 1))
def f_face (g : Nat → Int32) (a b : Int32) : Int32 × (Nat → Int32) := if zin a 0 1999 = true ∧ zin b 1 99 = true then (if vN g 6 = 6 then (-1000000003, g) else (nI (vN g 6), gFace g a b)) else (-1000000001, g)
def gArch (g : Nat → Int32) (a : Int32) : Nat → Int32 := upd (upd g (495 + vN g 7) a) 7 (nI (vN g 7 + 1))
def f_arch (g : Nat → Int32) (a : Int32) : Int32 × (Nat → Int32) := if zin a 1 9 = true then (if vN g 7 = 8 then (-1000000003, g) else (nI (vN g 7), gArch g a)) else (-1000000001, g)
def outF (g : Nat → Int32) : Nat → Nat → Int32 → Int32
  | 0, _, _ => -1000000005
  | f + 1, d, has => if has + duesF g (nI d) (vN g 5) < 0 then nI d else outF g f (d + 1) (has + duesF g (nI d) (vN g 5))
def f_out (g : Nat → Int32) : Int32 := outF g 400 (vN g 8) (g 9)
section
variable {l : Launch} {G : zG} {Z : zS} {I : zI} {g : Nat → Int32} {Q : Option Value → zS → zI → Prop}
theorem c_X12_measure (hZ : ShR Z) (hB : InvB g) {x h v : Int32} (hq : Q (some (.int (f_measure g x h v).1)) Z (va_up I q_s (f_measure g x h v).2)) : zM l G mX12_measure 2 0 0 [.ref qR, .int x, .int h, .int v] Z (va_up I q_s g) Q := by
  have h1 := iv1 hB
  refine x_entry [some (.ref qR), some (.int x), some (.int h), some (.int v)] 0 rfl rfl (Nat.le_of_ble_eq_true rfl) ?_
  unfold f_measure at hq
  refine x_ald0 (n := 1) dX12_measure_0 rfl ?_
  refine x_ild1 (n := 2) dX12_measure_1 rfl ?_
  refine x_cV1 (n := 5) (d' := 1) zcX12_isWork mlX12_156 dX12_measure_2 rfl (rK hZ) (Nat.le_of_ble_eq_true rfl) (Nat.le_of_ble_eq_true rfl) ?_
  refine c_X12_isWork hZ h1.1 (by omega) ?_
  refine x_some ?_
  refine x_zif_eq (n := 8) (tgt := 48) dX12_measure_5 rfl (by decide) (fun c_5 => ?_) (fun c_5 => ?_)
  · rw [if_neg (by grind)] at hq
    refine x_ldc (n := 50) dX12_measure_48 rfl kiX12_100 ?_
    refine r_iret dX12_measure_50 rfl ?_
    exact hq
  · refine x_ild2 (n := 9) dX12_measure_8 rfl ?_
    refine x_i2l (n := 10) dX12_measure_9 rfl ?_
    refine x_lconst (n := 11) (v := 0) dX12_measure_10 rfl (by decide) ?_
    refine x_lconst (n := 12) (v := 1) dX12_measure_11 rfl (by decide) ?_
    refine x_cS3 (n := 15) (d' := 0) zcX12_isIn mlX12_89 dX12_measure_12 rfl (Nat.le_of_ble_eq_true rfl) (Nat.le_of_ble_eq_true rfl) ?_
    refine c_X12_isIn (zin h 0 1) (by unfold zin; rw [zI64]; rfl) ?_
    refine x_some ?_
    refine x_zif_eq (n := 18) (tgt := 48) dX12_measure_15 rfl (by decide) (fun c_15 => ?_) (fun c_15 => ?_)
    · rw [if_neg (by grind)] at hq
      refine x_ldc (n := 50) dX12_measure_48 rfl kiX12_100 ?_
      refine r_iret dX12_measure_50 rfl ?_
      exact hq
    · refine x_ild3 (n := 19) dX12_measure_18 rfl ?_
      refine x_i2l (n := 20) dX12_measure_19 rfl ?_
      refine x_lconst (n := 21) (v := 0) dX12_measure_20 rfl (by decide) ?_
      refine x_ldc2 (n := 24) dX12_measure_21 rfl klX12_147 ?_
      refine x_cS3 (n := 27) (d' := 0) zcX12_isIn mlX12_89 dX12_measure_24 rfl (Nat.le_of_ble_eq_true rfl) (Nat.le_of_ble_eq_true rfl) ?_
      refine c_X12_isIn (zin v 0 9999) (by unfold zin; rw [zI64]; rfl) ?_
      refine x_some ?_
      refine x_zif_eq (n := 30) (tgt := 48) dX12_measure_27 rfl (by decide) (fun c_27 => ?_) (fun c_27 => ?_)
      · rw [if_neg (by grind)] at hq
        refine x_ldc (n := 50) dX12_measure_48 rfl kiX12_100 ?_
        refine r_iret dX12_measure_50 rfl ?_
        exact hq
      · rw [if_pos ⟨c_5, c_15, c_27⟩] at hq
        obtain ⟨c, hc, rfl⟩ := z_chain c_5
        obtain ⟨j, hj, hj2, rfl⟩ := z_num 2 c_15 (by omega)
        rw [ix_nI (by omega), ix_nI (by omega)] at hq
        refine x_ald0 (n := 31) dX12_measure_30 rfl ?_
        refine x_ald0 (n := 32) dX12_measure_31 rfl ?_
        refine x_ild1 (n := 33) dX12_measure_32 rfl ?_
        refine x_cV1 (n := 36) (d' := 0) zcX12_workAt mlX12_93 dX12_measure_33 rfl (rK hZ) (Nat.le_of_ble_eq_true rfl) (Nat.le_of_ble_eq_true rfl) ?_
        refine c_X12_workAt ?_
        refine x_some ?_
        refine x_bipush (n := 38) (v := nI 7) dX12_measure_36 rfl (by decide) ?_
        refine x_iaddN (n := 39) dX12_measure_38 rfl ?_
        refine x_ild2 (n := 40) dX12_measure_39 rfl ?_
        refine x_iaddN (n := 41) dX12_measure_40 rfl ?_
        refine x_ild3 (n := 42) dX12_measure_41 rfl ?_
        refine x_cV2 (n := 45) (d' := 0) zcX12_becomes mlX12_110 dX12_measure_42 rfl (rK hZ) (Nat.le_of_ble_eq_true rfl) (Nat.le_of_ble_eq_true rfl) ?_
        refine c_X12_becomes hZ (by omega) ?_
        refine x_some ?_
        refine x_goto (n := 50) dX12_measure_45 (by decide) ?_
        refine r_iret dX12_measure_50 rfl ?_
        exact hq
theorem l_X12_quarrels (hZ : ShR Z) {n : Nat} (hn : g 1 = nI n) (h2 : n ≤ 24) (hq : Q (some (.int (nI (zct (g_quar g) n)))) Z (va_up I q_s g)) : ∀ m k, k ≤ n → n - k < m → zX l G mX12_quarrels 1 0 0 4 [some (.ref qR), some (.int (nI (zct (g_quar g) k))), some (.int (nI k))] [] Z (va_up I q_s g) Q := by
  intro m
  induction m with
  | zero => intro k _ h; exact absurd h (by omega)
  | succ m ih =>
    intro k hk hm
    refine x_ild2 (n := 5) dX12_quarrels_4 rfl ?_
    refine x_ald0 (n := 6) dX12_quarrels_5 rfl ?_
    refine x_getR (n := 9) flX12_7 rfl dX12_quarrels_6 rfl (rK hZ) (rP_s hZ) ?_
    refine x_ic1 (n := 10) dX12_quarrels_9 rfl ?_
    refine x_sld (n := 11) dX12_quarrels_10 rfl hZ (by omega) ?_
    rw [hn]
    refine x_icmpN_ge (n := 14) (tgt := 59) dX12_quarrels_11 rfl (by decide) (by omega) (by omega) (fun c_11 => ?_) (fun c_11 => ?_)
    · refine x_ild1 (n := 60) dX12_quarrels_59 rfl ?_
      refine r_iret dX12_quarrels_60 rfl ?_
      rw [show k = n by omega]; exact hq
    · refine x_ild1 (n := 15) dX12_quarrels_14 rfl ?_
      refine x_ald0 (n := 16) dX12_quarrels_15 rfl ?_
      refine x_getR (n := 19) flX12_7 rfl dX12_quarrels_16 rfl (rK hZ) (rP_s hZ) ?_
      refine x_ald0 (n := 20) dX12_quarrels_19 rfl ?_
      refine x_ild2 (n := 21) dX12_quarrels_20 rfl ?_
      refine x_cV1 (n := 24) (d' := 0) zcX12_workAt mlX12_93 dX12_quarrels_21 rfl (rK hZ) (Nat.le_of_ble_eq_true rfl) (Nat.le_of_ble_eq_true rfl) ?_
      refine c_X12_workAt ?_
      refine x_some ?_
      refine x_bipush (n := 26) (v := nI 7) dX12_quarrels_24 rfl (by decide) ?_
      refine x_iaddN (n := 27) dX12_quarrels_26 rfl ?_
      refine x_sld (n := 28) dX12_quarrels_27 rfl hZ (by omega) ?_
      refine x_ald0 (n := 29) dX12_quarrels_28 rfl ?_
      refine x_getR (n := 32) flX12_7 rfl dX12_quarrels_29 rfl (rK hZ) (rP_s hZ) ?_
      refine x_ald0 (n := 33) dX12_quarrels_32 rfl ?_
      refine x_ild2 (n := 34) dX12_quarrels_33 rfl ?_
      refine x_cV1 (n := 37) (d' := 0) zcX12_workAt mlX12_93 dX12_quarrels_34 rfl (rK hZ) (Nat.le_of_ble_eq_true rfl) (Nat.le_of_ble_eq_true rfl) ?_
      refine c_X12_workAt ?_
      refine x_some ?_
      refine x_bipush (n := 39) (v := nI 7) dX12_quarrels_37 rfl (by decide) ?_
      refine x_iaddN (n := 40) dX12_quarrels_39 rfl ?_
      refine x_ic1 (n := 41) dX12_quarrels_40 rfl ?_
      refine x_iaddN (n := 42) dX12_quarrels_41 rfl ?_
      refine x_sld (n := 43) dX12_quarrels_42 rfl hZ (by omega) ?_
      refine x_icmp_eq (n := 46) (tgt := 50) dX12_quarrels_43 rfl (by decide) (fun c_43 => ?_) (fun c_43 => ?_)
      · refine x_ic0 (n := 51) dX12_quarrels_50 rfl ?_
        refine x_iaddN (n := 52) dX12_quarrels_51 rfl ?_
        refine x_ist1 (n := 53) dX12_quarrels_52 rfl (by decide) rfl ?_
        refine x_iincN2 (n := 56) (k := 1) dX12_quarrels_53 rfl (by decide) rfl ?_
        refine x_goto (n := 4) dX12_quarrels_56 (by decide) ?_
        first | (rw [zct_t (by unfold g_quar; grind)]; exact ih (k + 1) (by omega) (by omega)) | (rw [zct_f (by unfold g_quar; grind)]; exact ih (k + 1) (by omega) (by omega))
      · refine x_ic1 (n := 47) dX12_quarrels_46 rfl ?_
        refine x_goto (n := 51) dX12_quarrels_47 (by decide) ?_
        refine x_iaddN (n := 52) dX12_quarrels_51 rfl ?_
        refine x_ist1 (n := 53) dX12_quarrels_52 rfl (by decide) rfl ?_
        refine x_iincN2 (n := 56) (k := 1) dX12_quarrels_53 rfl (by decide) rfl ?_
        refine x_goto (n := 4) dX12_quarrels_56 (by decide) ?_
        first | (rw [zct_t (by unfold g_quar; grind)]; exact ih (k + 1) (by omega) (by omega)) | (rw [zct_f (by unfold g_quar; grind)]; exact ih (k + 1) (by omega) (by omega))
theorem c_X12_quarrels (hZ : ShR Z) (hB : InvB g) (hq : Q (some (.int (f_quarrels g))) Z (va_up I q_s g)) : zM l G mX12_quarrels 1 0 0 [.ref qR] Z (va_up I q_s g) Q := by
  have h1 := iv1 hB
  refine x_entry [some (.ref qR), none, none] 2 rfl rfl (Nat.le_of_ble_eq_true rfl) ?_
  refine x_ic0 (n := 1) dX12_quarrels_0 rfl ?_
  refine x_ist1 (n := 2) dX12_quarrels_1 rfl (by decide) rfl ?_
  refine x_ic0 (n := 3) dX12_quarrels_2 rfl ?_
  refine x_ist2 (n := 4) dX12_quarrels_3 rfl (by decide) rfl ?_
  exact l_X12_quarrels hZ h1.1 h1.2 hq (vN g 1 + 1) 0 (by omega) (by omega)
theorem c_X12_claim (hZ : ShR Z) (hB : InvB g) {a b c : Int32} (hq : Q (some (.int (f_claim g a b c).1)) Z (va_up I q_s (f_claim g a b c).2)) : zM l G mX12_claim 1 0 0 [.ref qR, .int a, .int b, .int c] Z (va_up I q_s g) Q := by
  have h4 := iv4 hB
  refine x_entry [some (.ref qR), some (.int a), some (.int b), some (.int c), none] 1 rfl rfl (Nat.le_of_ble_eq_true rfl) ?_
  unfold f_claim at hq
  refine x_ild1 (n := 1) dX12_claim_0 rfl ?_
  refine x_i2l (n := 2) dX12_claim_1 rfl ?_
  refine x_lconst (n := 3) (v := 0) dX12_claim_2 rfl (by decide) ?_
  refine x_ldc2 (n := 6) dX12_claim_3 rfl klX12_180 ?_
  refine x_cS3 (n := 9) (d' := 0) zcX12_isIn mlX12_89 dX12_claim_6 rfl (Nat.le_of_ble_eq_true rfl) (Nat.le_of_ble_eq_true rfl) ?_
  refine c_X12_isIn (zin a 0 1999) (by unfold zin; rw [zI64]; rfl) ?_
  refine x_some ?_
  refine x_zif_eq (n := 12) (tgt := 37) dX12_claim_9 rfl (by decide) (fun c_9 => ?_) (fun c_9 => ?_)
  · rw [if_neg (by grind)] at hq
    refine x_ldc (n := 39) dX12_claim_37 rfl kiX12_100 ?_
    refine r_iret dX12_claim_39 rfl ?_
    exact hq
  · refine x_ild2 (n := 13) dX12_claim_12 rfl ?_
    refine x_i2l (n := 14) dX12_claim_13 rfl ?_
    refine x_ild1 (n := 15) dX12_claim_14 rfl ?_
    refine x_i2l (n := 16) dX12_claim_15 rfl ?_
    refine x_ldc2 (n := 19) dX12_claim_16 rfl klX12_180 ?_
    refine x_cS3 (n := 22) (d' := 0) zcX12_isIn mlX12_89 dX12_claim_19 rfl (Nat.le_of_ble_eq_true rfl) (Nat.le_of_ble_eq_true rfl) ?_
    refine c_X12_isIn (zin b a.toInt 1999) (by unfold zin; simp only [zI64]; rfl) ?_
    refine x_some ?_
    refine x_zif_eq (n := 25) (tgt := 37) dX12_claim_22 rfl (by decide) (fun c_22 => ?_) (fun c_22 => ?_)
    · rw [if_neg (by grind)] at hq
      refine x_ldc (n := 39) dX12_claim_37 rfl kiX12_100 ?_
      refine r_iret dX12_claim_39 rfl ?_
      exact hq
    · refine x_ild3 (n := 26) dX12_claim_25 rfl ?_
      refine x_i2l (n := 27) dX12_claim_26 rfl ?_
      refine x_lconst (n := 28) (v := 0) dX12_claim_27 rfl (by decide) ?_
      refine x_ldc2 (n := 31) dX12_claim_28 rfl klX12_106 ?_
      refine x_cS3 (n := 34) (d' := 0) zcX12_isIn mlX12_89 dX12_claim_31 rfl (Nat.le_of_ble_eq_true rfl) (Nat.le_of_ble_eq_true rfl) ?_
      refine c_X12_isIn (zin c 0 3) (by unfold zin; rw [zI64]; rfl) ?_
      refine x_some ?_
      refine x_zif_ne (n := 37) (tgt := 40) dX12_claim_34 rfl (by decide) (fun c_34 => ?_) (fun c_34 => ?_)
      · rw [if_pos ⟨c_9, c_22, c_34⟩] at hq
        refine x_ald0 (n := 41) dX12_claim_40 rfl ?_
        refine x_getR (n := 44) flX12_7 rfl dX12_claim_41 rfl (rK hZ) (rP_s hZ) ?_
        refine x_ic4 (n := 45) dX12_claim_44 rfl ?_
        refine x_sld (n := 46) dX12_claim_45 rfl hZ (by omega) ?_
        rw [h4.1]
        refine x_bipush (n := 48) (v := nI 20) dX12_claim_46 rfl (by decide) ?_
        refine x_icmpN_ne (n := 51) (tgt := 54) dX12_claim_48 rfl (by decide) (by omega) (by omega) (fun c_48 => ?_) (fun c_48 => ?_)
        · rw [if_neg (by omega)] at hq
          refine x_sipush (n := 57) (v := nI 380) dX12_claim_54 rfl (by decide) ?_
          refine x_ic3 (n := 58) dX12_claim_57 rfl ?_
          refine x_ald0 (n := 59) dX12_claim_58 rfl ?_
          refine x_getR (n := 62) flX12_7 rfl dX12_claim_59 rfl (rK hZ) (rP_s hZ) ?_
          refine x_ic4 (n := 63) dX12_claim_62 rfl ?_
          refine x_sld (n := 64) dX12_claim_63 rfl hZ (by omega) ?_
          rw [h4.1]
          refine x_imulN (n := 65) dX12_claim_64 rfl ?_
          refine x_iaddN (n := 66) dX12_claim_65 rfl ?_
          refine x_ist4 (n := 68) dX12_claim_66 rfl (by decide) rfl ?_
          refine x_ald0 (n := 69) dX12_claim_68 rfl ?_
          refine x_getR (n := 72) flX12_7 rfl dX12_claim_69 rfl (rK hZ) (rP_s hZ) ?_
          refine x_ild4 (n := 74) dX12_claim_72 rfl ?_
          refine x_ild1 (n := 75) dX12_claim_74 rfl ?_
          refine x_sst (n := 76) dX12_claim_75 rfl hZ (by omega) ?_
          refine x_ald0 (n := 77) dX12_claim_76 rfl ?_
          refine x_getR (n := 80) flX12_7 rfl dX12_claim_77 rfl (rK hZ) (rP_s hZ) ?_
          refine x_ild4 (n := 82) dX12_claim_80 rfl ?_
          refine x_ic1 (n := 83) dX12_claim_82 rfl ?_
          refine x_iaddN (n := 84) dX12_claim_83 rfl ?_
          refine x_ild2 (n := 85) dX12_claim_84 rfl ?_
          refine x_sst (n := 86) dX12_claim_85 rfl hZ (by omega) ?_
          refine x_ald0 (n := 87) dX12_claim_86 rfl ?_
          refine x_getR (n := 90) flX12_7 rfl dX12_claim_87 rfl (rK hZ) (rP_s hZ) ?_
          refine x_ild4 (n := 92) dX12_claim_90 rfl ?_
          refine x_ic2 (n := 93) dX12_claim_92 rfl ?_
          refine x_iaddN (n := 94) dX12_claim_93 rfl ?_
          refine x_ild3 (n := 95) dX12_claim_94 rfl ?_
          refine x_sst (n := 96) dX12_claim_95 rfl hZ (by omega) ?_
          refine x_ald0 (n := 97) dX12_claim_96 rfl ?_
          refine x_getR (n := 100) flX12_7 rfl dX12_claim_97 rfl (rK hZ) (rP_s hZ) ?_
          refine x_ic4 (n := 101) dX12_claim_100 rfl ?_
          refine x_dup2 (n := 102) dX12_claim_101 rfl rfl rfl ?_
          refine x_sld (n := 103) dX12_claim_102 rfl hZ (by omega) ?_
          rw [upd_off (by omega), upd_off (by omega), upd_off (by omega), h4.1]
          refine x_ic1 (n := 104) dX12_claim_103 rfl ?_
          refine x_iaddN (n := 105) dX12_claim_104 rfl ?_
          refine x_sst (n := 106) dX12_claim_105 rfl hZ (by omega) ?_
          refine x_ald0 (n := 107) dX12_claim_106 rfl ?_
          refine x_getR (n := 110) flX12_7 rfl dX12_claim_107 rfl (rK hZ) (rP_s hZ) ?_
          refine x_ic4 (n := 111) dX12_claim_110 rfl ?_
          refine x_sld (n := 112) dX12_claim_111 rfl hZ (by omega) ?_
          rw [upd_same]
          refine x_ic1 (n := 113) dX12_claim_112 rfl ?_
          refine x_isubN (n := 114) dX12_claim_113 rfl (by omega) ?_
          refine r_iret dX12_claim_114 rfl ?_
          exact hq
        · rw [if_pos (by omega)] at hq
          refine x_ldc (n := 53) dX12_claim_51 rfl kiX12_149 ?_
          refine r_iret dX12_claim_53 rfl ?_
          exact hq
      · rw [if_neg (by grind)] at hq
        refine x_ldc (n := 39) dX12_claim_37 rfl kiX12_100 ?_
        refine r_iret dX12_claim_39 rfl ?_
        exact hq
theorem c_X12_call (hZ : ShR Z) {x : Int32} (hq : Q (some (.int (f_call g x).1)) Z (va_up I q_s (f_call g x).2)) : zM l G mX12_call 1 0 0 [.ref qR, .int x] Z (va_up I q_s g) Q := by
  refine x_entry [some (.ref qR), some (.int x)] 0 rfl rfl (Nat.le_of_ble_eq_true rfl) ?_
  unfold f_call at hq
  refine x_ild1 (n := 1) dX12_call_0 rfl ?_
  refine x_i2l (n := 2) dX12_call_1 rfl ?_
  refine x_lconst (n := 3) (v := 1) dX12_call_2 rfl (by decide) ?_
  refine x_ldc2 (n := 6) dX12_call_3 rfl klX12_330 ?_
  refine x_cS3 (n := 9) (d' := 0) zcX12_isIn mlX12_89 dX12_call_6 rfl (Nat.le_of_ble_eq_true rfl) (Nat.le_of_ble_eq_true rfl) ?_
  refine c_X12_isIn (zin x 1 99999) (by unfold zin; rw [zI64]; rfl) ?_
  refine x_some ?_
  refine x_zif_ne (n := 12) (tgt := 15) dX12_call_9 rfl (by decide) (fun c_9 => ?_) (fun c_9 => ?_)
  · rw [if_pos c_9] at hq
    refine x_ald0 (n := 16) dX12_call_15 rfl ?_
    refine x_getR (n := 19) flX12_7 rfl dX12_call_16 rfl (rK hZ) (rP_s hZ) ?_
    refine x_bipush (n := 21) (v := nI 9) dX12_call_19 rfl (by decide) ?_
    refine x_dup2 (n := 22) dX12_call_21 rfl rfl rfl ?_
    refine x_sld (n := 23) dX12_call_22 rfl hZ (by omega) ?_
    refine x_ild1 (n := 24) dX12_call_23 rfl ?_
    refine x_iadd (n := 25) dX12_call_24 rfl ?_
    refine x_sst (n := 26) dX12_call_25 rfl hZ (by omega) ?_
    refine x_ald0 (n := 27) dX12_call_26 rfl ?_
    refine x_getR (n := 30) flX12_7 rfl dX12_call_27 rfl (rK hZ) (rP_s hZ) ?_
    refine x_bipush (n := 32) (v := nI 9) dX12_call_30 rfl (by decide) ?_
    refine x_sld (n := 33) dX12_call_32 rfl hZ (by omega) ?_
    rw [upd_same]
    refine r_iret dX12_call_33 rfl ?_
    exact hq
  · rw [if_neg (by grind)] at hq
    refine x_ldc (n := 14) dX12_call_12 rfl kiX12_100 ?_
    refine r_iret dX12_call_14 rfl ?_
    exact hq
theorem c_X12_due (hZ : ShR Z) (hB : InvB g) {a b : Int32} (hq : Q (some (.int (f_due g a b).1)) Z (va_up I q_s (f_due g a b).2)) : zM l G mX12_due 1 0 0 [.ref qR, .int a, .int b] Z (va_up I q_s g) Q := by
  have h5 := iv5 hB
  refine x_entry [some (.ref qR), some (.int a), some (.int b)] 0 rfl rfl (Nat.le_of_ble_eq_true rfl) ?_
  unfold f_due at hq
  refine x_ild1 (n := 1) dX12_due_0 rfl ?_
  refine x_i2l (n := 2) dX12_due_1 rfl ?_
  refine x_ald0 (n := 3) dX12_due_2 rfl ?_
  refine x_getR (n := 6) flX12_7 rfl dX12_due_3 rfl (rK hZ) (rP_s hZ) ?_
  refine x_bipush (n := 8) (v := nI 8) dX12_due_6 rfl (by decide) ?_
  refine x_sld (n := 9) dX12_due_8 rfl hZ (by omega) ?_
  refine x_i2l (n := 10) dX12_due_9 rfl ?_
  refine x_ldc2 (n := 13) dX12_due_10 rfl klX12_180 ?_
  refine x_cS3 (n := 16) (d' := 0) zcX12_isIn mlX12_89 dX12_due_13 rfl (Nat.le_of_ble_eq_true rfl) (Nat.le_of_ble_eq_true rfl) ?_
  refine c_X12_isIn (zin a (g 8).toInt 1999) (by unfold zin; simp only [zI64]; rfl) ?_
  refine x_some ?_
  refine x_zif_eq (n := 19) (tgt := 33) dX12_due_16 rfl (by decide) (fun c_16 => ?_) (fun c_16 => ?_)
  · rw [if_neg (by grind)] at hq
    refine x_ldc (n := 35) dX12_due_33 rfl kiX12_100 ?_
    refine r_iret dX12_due_35 rfl ?_
    exact hq
  · refine x_ild2 (n := 20) dX12_due_19 rfl ?_
    refine x_i2l (n := 21) dX12_due_20 rfl ?_
    refine x_ldc2 (n := 24) dX12_due_21 rfl klX12_332 ?_
    refine x_ldc2 (n := 27) dX12_due_24 rfl klX12_330 ?_
    refine x_cS3 (n := 30) (d' := 0) zcX12_isIn mlX12_89 dX12_due_27 rfl (Nat.le_of_ble_eq_true rfl) (Nat.le_of_ble_eq_true rfl) ?_
    refine c_X12_isIn (zin b (-99999) 99999) (by unfold zin; rw [zI64]; rfl) ?_
    refine x_some ?_
    refine x_zif_ne (n := 33) (tgt := 36) dX12_due_30 rfl (by decide) (fun c_30 => ?_) (fun c_30 => ?_)
    · rw [if_pos ⟨c_16, c_30⟩] at hq
      refine x_ald0 (n := 37) dX12_due_36 rfl ?_
      refine x_getR (n := 40) flX12_7 rfl dX12_due_37 rfl (rK hZ) (rP_s hZ) ?_
      refine x_ic5 (n := 41) dX12_due_40 rfl ?_
      refine x_sld (n := 42) dX12_due_41 rfl hZ (by omega) ?_
      rw [h5.1]
      refine x_bipush (n := 44) (v := nI 20) dX12_due_42 rfl (by decide) ?_
      refine x_icmpN_ne (n := 47) (tgt := 50) dX12_due_44 rfl (by decide) (by omega) (by omega) (fun c_44 => ?_) (fun c_44 => ?_)
      · rw [if_neg (by omega)] at hq
        refine x_ald0 (n := 51) dX12_due_50 rfl ?_
        refine x_getR (n := 54) flX12_7 rfl dX12_due_51 rfl (rK hZ) (rP_s hZ) ?_
        refine x_sipush (n := 57) (v := nI 440) dX12_due_54 rfl (by decide) ?_
        refine x_ic2 (n := 58) dX12_due_57 rfl ?_
        refine x_ald0 (n := 59) dX12_due_58 rfl ?_
        refine x_getR (n := 62) flX12_7 rfl dX12_due_59 rfl (rK hZ) (rP_s hZ) ?_
        refine x_ic5 (n := 63) dX12_due_62 rfl ?_
        refine x_sld (n := 64) dX12_due_63 rfl hZ (by omega) ?_
        rw [h5.1]
        refine x_imulN (n := 65) dX12_due_64 rfl ?_
        refine x_iaddN (n := 66) dX12_due_65 rfl ?_
        refine x_ild1 (n := 67) dX12_due_66 rfl ?_
        refine x_sst (n := 68) dX12_due_67 rfl hZ (by omega) ?_
        refine x_ald0 (n := 69) dX12_due_68 rfl ?_
        refine x_getR (n := 72) flX12_7 rfl dX12_due_69 rfl (rK hZ) (rP_s hZ) ?_
        refine x_sipush (n := 75) (v := nI 440) dX12_due_72 rfl (by decide) ?_
        refine x_ic2 (n := 76) dX12_due_75 rfl ?_
        refine x_ald0 (n := 77) dX12_due_76 rfl ?_
        refine x_getR (n := 80) flX12_7 rfl dX12_due_77 rfl (rK hZ) (rP_s hZ) ?_
        refine x_ic5 (n := 81) dX12_due_80 rfl ?_
        refine x_sld (n := 82) dX12_due_81 rfl hZ (by omega) ?_
        rw [upd_off (by omega), h5.1]
        refine x_imulN (n := 83) dX12_due_82 rfl ?_
        refine x_iaddN (n := 84) dX12_due_83 rfl ?_
        refine x_ic1 (n := 85) dX12_due_84 rfl ?_
        refine x_iaddN (n := 86) dX12_due_85 rfl ?_
        refine x_ild2 (n := 87) dX12_due_86 rfl ?_
        refine x_sst (n := 88) dX12_due_87 rfl hZ (by omega) ?_
        refine x_ald0 (n := 89) dX12_due_88 rfl ?_
        refine x_getR (n := 92) flX12_7 rfl dX12_due_89 rfl (rK hZ) (rP_s hZ) ?_
        refine x_ic5 (n := 93) dX12_due_92 rfl ?_
        refine x_dup2 (n := 94) dX12_due_93 rfl rfl rfl ?_
        refine x_sld (n := 95) dX12_due_94 rfl hZ (by omega) ?_
        rw [upd_off (by omega), upd_off (by omega), h5.1]
        refine x_ic1 (n := 96) dX12_due_95 rfl ?_
        refine x_iaddN (n := 97) dX12_due_96 rfl ?_
        refine x_sst (n := 98) dX12_due_97 rfl hZ (by omega) ?_
        refine x_ald0 (n := 99) dX12_due_98 rfl ?_
        refine x_getR (n := 102) flX12_7 rfl dX12_due_99 rfl (rK hZ) (rP_s hZ) ?_
        refine x_ic5 (n := 103) dX12_due_102 rfl ?_
        refine x_sld (n := 104) dX12_due_103 rfl hZ (by omega) ?_
        rw [upd_same]
        refine x_ic1 (n := 105) dX12_due_104 rfl ?_
        refine x_isubN (n := 106) dX12_due_105 rfl (by omega) ?_
        refine r_iret dX12_due_106 rfl ?_
        exact hq
      · rw [if_pos (by omega)] at hq
        refine x_ldc (n := 49) dX12_due_47 rfl kiX12_149 ?_
        refine r_iret dX12_due_49 rfl ?_
        exact hq
    · rw [if_neg (by grind)] at hq
      refine x_ldc (n := 35) dX12_due_33 rfl kiX12_100 ?_
      refine r_iret dX12_due_35 rfl ?_
      exact hq
theorem c_X12_face (hZ : ShR Z) (hB : InvB g) {a b : Int32} (hq : Q (some (.int (f_face g a b).1)) Z (va_up I q_s (f_face g a b).2)) : zM l G mX12_face 1 0 0 [.ref qR, .int a, .int b] Z (va_up I q_s g) Q := by
  have h6 := iv6 hB
  refine x_entry [some (.ref qR), some (.int a), some (.int b)] 0 rfl rfl (Nat.le_of_ble_eq_true rfl) ?_
  unfold f_face at hq
  refine x_ild1 (n := 1) dX12_face_0 rfl ?_
  refine x_i2l (n := 2) dX12_face_1 rfl ?_
  refine x_lconst (n := 3) (v := 0) dX12_face_2 rfl (by decide) ?_
  refine x_ldc2 (n := 6) dX12_face_3 rfl klX12_180 ?_
  refine x_cS3 (n := 9) (d' := 0) zcX12_isIn mlX12_89 dX12_face_6 rfl (Nat.le_of_ble_eq_true rfl) (Nat.le_of_ble_eq_true rfl) ?_
  refine c_X12_isIn (zin a 0 1999) (by unfold zin; rw [zI64]; rfl) ?_
  refine x_some ?_
  refine x_zif_eq (n := 12) (tgt := 24) dX12_face_9 rfl (by decide) (fun c_9 => ?_) (fun c_9 => ?_)
  · rw [if_neg (by grind)] at hq
    refine x_ldc (n := 26) dX12_face_24 rfl kiX12_100 ?_
    refine r_iret dX12_face_26 rfl ?_
    exact hq
  · refine x_ild2 (n := 13) dX12_face_12 rfl ?_
    refine x_i2l (n := 14) dX12_face_13 rfl ?_
    refine x_lconst (n := 15) (v := 1) dX12_face_14 rfl (by decide) ?_
    refine x_ldc2 (n := 18) dX12_face_15 rfl klX12_108 ?_
    refine x_cS3 (n := 21) (d' := 0) zcX12_isIn mlX12_89 dX12_face_18 rfl (Nat.le_of_ble_eq_true rfl) (Nat.le_of_ble_eq_true rfl) ?_
    refine c_X12_isIn (zin b 1 99) (by unfold zin; rw [zI64]; rfl) ?_
    refine x_some ?_
    refine x_zif_ne (n := 24) (tgt := 27) dX12_face_21 rfl (by decide) (fun c_21 => ?_) (fun c_21 => ?_)
    · rw [if_pos ⟨c_9, c_21⟩] at hq
      refine x_ald0 (n := 28) dX12_face_27 rfl ?_
      refine x_getR (n := 31) flX12_7 rfl dX12_face_28 rfl (rK hZ) (rP_s hZ) ?_
      refine x_bipush (n := 33) (v := nI 6) dX12_face_31 rfl (by decide) ?_
      refine x_sld (n := 34) dX12_face_33 rfl hZ (by omega) ?_
      rw [h6.1]
      refine x_bipush (n := 36) (v := nI 6) dX12_face_34 rfl (by decide) ?_
      refine x_icmpN_ne (n := 39) (tgt := 42) dX12_face_36 rfl (by decide) (by omega) (by omega) (fun c_36 => ?_) (fun c_36 => ?_)
      · rw [if_neg (by omega)] at hq
        refine x_ald0 (n := 43) dX12_face_42 rfl ?_
        refine x_getR (n := 46) flX12_7 rfl dX12_face_43 rfl (rK hZ) (rP_s hZ) ?_
        refine x_sipush (n := 49) (v := nI 480) dX12_face_46 rfl (by decide) ?_
        refine x_ic2 (n := 50) dX12_face_49 rfl ?_
        refine x_ald0 (n := 51) dX12_face_50 rfl ?_
        refine x_getR (n := 54) flX12_7 rfl dX12_face_51 rfl (rK hZ) (rP_s hZ) ?_
        refine x_bipush (n := 56) (v := nI 6) dX12_face_54 rfl (by decide) ?_
        refine x_sld (n := 57) dX12_face_56 rfl hZ (by omega) ?_
        rw [h6.1]
        refine x_imulN (n := 58) dX12_face_57 rfl ?_
        refine x_iaddN (n := 59) dX12_face_58 rfl ?_
        refine x_ild1 (n := 60) dX12_face_59 rfl ?_
        refine x_sst (n := 61) dX12_face_60 rfl hZ (by omega) ?_
        refine x_ald0 (n := 62) dX12_face_61 rfl ?_
        refine x_getR (n := 65) flX12_7 rfl dX12_face_62 rfl (rK hZ) (rP_s hZ) ?_
        refine x_sipush (n := 68) (v := nI 480) dX12_face_65 rfl (by decide) ?_
        refine x_ic2 (n := 69) dX12_face_68 rfl ?_
        refine x_ald0 (n := 70) dX12_face_69 rfl ?_
        refine x_getR (n := 73) flX12_7 rfl dX12_face_70 rfl (rK hZ) (rP_s hZ) ?_
        refine x_bipush (n := 75) (v := nI 6) dX12_face_73 rfl (by decide) ?_
        refine x_sld (n := 76) dX12_face_75 rfl hZ (by omega) ?_
        rw [upd_off (by omega), h6.1]
        refine x_imulN (n := 77) dX12_face_76 rfl ?_
        refine x_iaddN (n := 78) dX12_face_77 rfl ?_
        refine x_ic1 (n := 79) dX12_face_78 rfl ?_
        refine x_iaddN (n := 80) dX12_face_79 rfl ?_
        refine x_ild2 (n := 81) dX12_face_80 rfl ?_
        refine x_sst (n := 82) dX12_face_81 rfl hZ (by omega) ?_
        refine x_ald0 (n := 83) dX12_face_82 rfl ?_
        refine x_getR (n := 86) flX12_7 rfl dX12_face_83 rfl (rK hZ) (rP_s hZ) ?_
        refine x_bipush (n := 88) (v := nI 6) dX12_face_86 rfl (by decide) ?_
        refine x_dup2 (n := 89) dX12_face_88 rfl rfl rfl ?_
        refine x_sld (n := 90) dX12_face_89 rfl hZ (by omega) ?_
        rw [upd_off (by omega), upd_off (by omega), h6.1]
        refine x_ic1 (n := 91) dX12_face_90 rfl ?_
        refine x_iaddN (n := 92) dX12_face_91 rfl ?_
        refine x_sst (n := 93) dX12_face_92 rfl hZ (by omega) ?_
        refine x_ald0 (n := 94) dX12_face_93 rfl ?_
        refine x_getR (n := 97) flX12_7 rfl dX12_face_94 rfl (rK hZ) (rP_s hZ) ?_
        refine x_bipush (n := 99) (v := nI 6) dX12_face_97 rfl (by decide) ?_
        refine x_sld (n := 100) dX12_face_99 rfl hZ (by omega) ?_
        rw [upd_same]
        refine x_ic1 (n := 101) dX12_face_100 rfl ?_
        refine x_isubN (n := 102) dX12_face_101 rfl (by omega) ?_
        refine r_iret dX12_face_102 rfl ?_
        exact hq
      · rw [if_pos (by omega)] at hq
        refine x_ldc (n := 41) dX12_face_39 rfl kiX12_149 ?_
        refine r_iret dX12_face_41 rfl ?_
        exact hq
    · rw [if_neg (by grind)] at hq
      refine x_ldc (n := 26) dX12_face_24 rfl kiX12_100 ?_
      refine r_iret dX12_face_26 rfl ?_
      exact hq
theorem c_X12_arch (hZ : ShR Z) (hB : InvB g) {a : Int32} (hq : Q (some (.int (f_arch g a).1)) Z (va_up I q_s (f_arch g a).2)) : zM l G mX12_arch 1 0 0 [.ref qR, .int a] Z (va_up I q_s g) Q := by
  have h7 := iv7 hB
  refine x_entry [some (.ref qR), some (.int a)] 0 rfl rfl (Nat.le_of_ble_eq_true rfl) ?_
  unfold f_arch at hq
  refine x_ild1 (n := 1) dX12_arch_0 rfl ?_
  refine x_i2l (n := 2) dX12_arch_1 rfl ?_
  refine x_lconst (n := 3) (v := 1) dX12_arch_2 rfl (by decide) ?_
  refine x_ldc2 (n := 6) dX12_arch_3 rfl klX12_182 ?_
  refine x_cS3 (n := 9) (d' := 0) zcX12_isIn mlX12_89 dX12_arch_6 rfl (Nat.le_of_ble_eq_true rfl) (Nat.le_of_ble_eq_true rfl) ?_
  refine c_X12_isIn (zin a 1 9) (by unfold zin; rw [zI64]; rfl) ?_
  refine x_some ?_
  refine x_zif_ne (n := 12) (tgt := 15) dX12_arch_9 rfl (by decide) (fun c_9 => ?_) (fun c_9 => ?_)
  · rw [if_pos c_9] at hq
    refine x_ald0 (n := 16) dX12_arch_15 rfl ?_
    refine x_getR (n := 19) flX12_7 rfl dX12_arch_16 rfl (rK hZ) (rP_s hZ) ?_
    refine x_bipush (n := 21) (v := nI 7) dX12_arch_19 rfl (by decide) ?_
    refine x_sld (n := 22) dX12_arch_21 rfl hZ (by omega) ?_
    rw [h7.1]
    refine x_bipush (n := 24) (v := nI 8) dX12_arch_22 rfl (by decide) ?_
    refine x_icmpN_ne (n := 27) (tgt := 30) dX12_arch_24 rfl (by decide) (by omega) (by omega) (fun c_24 => ?_) (fun c_24 => ?_)
    · rw [if_neg (by omega)] at hq
      refine x_ald0 (n := 31) dX12_arch_30 rfl ?_
      refine x_getR (n := 34) flX12_7 rfl dX12_arch_31 rfl (rK hZ) (rP_s hZ) ?_
      refine x_sipush (n := 37) (v := nI 495) dX12_arch_34 rfl (by decide) ?_
      refine x_ald0 (n := 38) dX12_arch_37 rfl ?_
      refine x_getR (n := 41) flX12_7 rfl dX12_arch_38 rfl (rK hZ) (rP_s hZ) ?_
      refine x_bipush (n := 43) (v := nI 7) dX12_arch_41 rfl (by decide) ?_
      refine x_sld (n := 44) dX12_arch_43 rfl hZ (by omega) ?_
      rw [h7.1]
      refine x_iaddN (n := 45) dX12_arch_44 rfl ?_
      refine x_ild1 (n := 46) dX12_arch_45 rfl ?_
      refine x_sst (n := 47) dX12_arch_46 rfl hZ (by omega) ?_
      refine x_ald0 (n := 48) dX12_arch_47 rfl ?_
      refine x_getR (n := 51) flX12_7 rfl dX12_arch_48 rfl (rK hZ) (rP_s hZ) ?_
      refine x_bipush (n := 53) (v := nI 7) dX12_arch_51 rfl (by decide) ?_
      refine x_dup2 (n := 54) dX12_arch_53 rfl rfl rfl ?_
      refine x_sld (n := 55) dX12_arch_54 rfl hZ (by omega) ?_
      rw [upd_off (by omega), h7.1]
      refine x_ic1 (n := 56) dX12_arch_55 rfl ?_
      refine x_iaddN (n := 57) dX12_arch_56 rfl ?_
      refine x_sst (n := 58) dX12_arch_57 rfl hZ (by omega) ?_
      refine x_ald0 (n := 59) dX12_arch_58 rfl ?_
      refine x_getR (n := 62) flX12_7 rfl dX12_arch_59 rfl (rK hZ) (rP_s hZ) ?_
      refine x_bipush (n := 64) (v := nI 7) dX12_arch_62 rfl (by decide) ?_
      refine x_sld (n := 65) dX12_arch_64 rfl hZ (by omega) ?_
      rw [upd_same]
      refine x_ic1 (n := 66) dX12_arch_65 rfl ?_
      refine x_isubN (n := 67) dX12_arch_66 rfl (by omega) ?_
      refine r_iret dX12_arch_67 rfl ?_
      exact hq
    · rw [if_pos (by omega)] at hq
      refine x_ldc (n := 29) dX12_arch_27 rfl kiX12_149 ?_
      refine r_iret dX12_arch_29 rfl ?_
      exact hq
  · rw [if_neg (by grind)] at hq
    refine x_ldc (n := 14) dX12_arch_12 rfl kiX12_100 ?_
    refine r_iret dX12_arch_14 rfl ?_
    exact hq
theorem l_X12_out (hZ : ShR Z) (hB : InvB g) : ∀ f d has, vN g 8 + 400 = d + f → Q (some (.int (outF g f d has))) Z (va_up I q_s g) → zX l G mX12_out 1 0 0 16 [some (.ref qR), some (.int has), some (.int (nI d))] [] Z (va_up I q_s g) Q := by
  have h8 := iv8 hB
  have h5 := iv5 hB
  intro f
  induction f with
  | zero =>
    intro d has hd hq
    refine x_ild2 (n := 17) dX12_out_16 rfl ?_
    refine x_ald0 (n := 18) dX12_out_17 rfl ?_
    refine x_getR (n := 21) flX12_7 rfl dX12_out_18 rfl (rK hZ) (rP_s hZ) ?_
    refine x_bipush (n := 23) (v := nI 8) dX12_out_21 rfl (by decide) ?_
    refine x_sld (n := 24) dX12_out_23 rfl hZ (by omega) ?_
    rw [h8.1]
    refine x_sipush (n := 27) (v := nI 400) dX12_out_24 rfl (by decide) ?_
    refine x_iaddN (n := 28) dX12_out_27 rfl ?_
    refine x_icmpN_ge (n := 31) (tgt := 51) dX12_out_28 rfl (by decide) (by omega) (by omega) (fun c_28 => ?_) (fun c_28 => ?_)
    · refine x_ldc (n := 53) dX12_out_51 rfl kiX12_88 ?_
      refine r_iret dX12_out_53 rfl ?_
      exact hq
    · exact absurd c_28 (by omega)
  | succ f ih =>
    intro d has hd hq
    unfold outF at hq
    refine x_ild2 (n := 17) dX12_out_16 rfl ?_
    refine x_ald0 (n := 18) dX12_out_17 rfl ?_
    refine x_getR (n := 21) flX12_7 rfl dX12_out_18 rfl (rK hZ) (rP_s hZ) ?_
    refine x_bipush (n := 23) (v := nI 8) dX12_out_21 rfl (by decide) ?_
    refine x_sld (n := 24) dX12_out_23 rfl hZ (by omega) ?_
    rw [h8.1]
    refine x_sipush (n := 27) (v := nI 400) dX12_out_24 rfl (by decide) ?_
    refine x_iaddN (n := 28) dX12_out_27 rfl ?_
    refine x_icmpN_ge (n := 31) (tgt := 51) dX12_out_28 rfl (by decide) (by omega) (by omega) (fun c_28 => ?_) (fun c_28 => ?_)
    · exact absurd c_28 (by omega)
    · refine x_ild1 (n := 32) dX12_out_31 rfl ?_
      refine x_ald0 (n := 33) dX12_out_32 rfl ?_
      refine x_ild2 (n := 34) dX12_out_33 rfl ?_
      refine x_cV1 (n := 37) (d' := 0) zcX12_duesOn mlX12_203 dX12_out_34 rfl (rK hZ) (Nat.le_of_ble_eq_true rfl) (Nat.le_of_ble_eq_true rfl) ?_
      refine c_X12_duesOn hZ h5.1 h5.2 ?_
      refine x_some ?_
      refine x_iadd (n := 38) dX12_out_37 rfl ?_
      refine x_ist1 (n := 39) dX12_out_38 rfl (by decide) rfl ?_
      refine x_ild1 (n := 40) dX12_out_39 rfl ?_
      refine x_if_ge (n := 43) (tgt := 45) dX12_out_40 rfl (by decide) (fun c_40 => ?_) (fun c_40 => ?_)
      · refine x_iincN2 (n := 48) (k := 1) dX12_out_45 rfl (by decide) rfl ?_
        refine x_goto (n := 16) dX12_out_48 (by decide) ?_
        rw [if_neg (Int32.not_lt.mpr c_40)] at hq
        exact ih (d + 1) _ (by omega) hq
      · refine x_ild2 (n := 44) dX12_out_43 rfl ?_
        refine r_iret dX12_out_44 rfl ?_
        rw [if_pos (Int32.not_le.mp c_40)] at hq; exact hq
theorem c_X12_out (hZ : ShR Z) (hB : InvB g) (hq : Q (some (.int (f_out g))) Z (va_up I q_s g)) : zM l G mX12_out 1 0 0 [.ref qR] Z (va_up I q_s g) Q := by
  have h8 := iv8 hB
  refine x_entry [some (.ref qR), none, none] 2 rfl rfl (Nat.le_of_ble_eq_true rfl) ?_
  refine x_ald0 (n := 1) dX12_out_0 rfl ?_
  refine x_getR (n := 4) flX12_7 rfl dX12_out_1 rfl (rK hZ) (rP_s hZ) ?_
  refine x_bipush (n := 6) (v := nI 9) dX12_out_4 rfl (by decide) ?_
  refine x_sld (n := 7) dX12_out_6 rfl hZ (by omega) ?_
  refine x_ist1 (n := 8) dX12_out_7 rfl (by decide) rfl ?_
  refine x_ald0 (n := 9) dX12_out_8 rfl ?_
  refine x_getR (n := 12) flX12_7 rfl dX12_out_9 rfl (rK hZ) (rP_s hZ) ?_
  refine x_bipush (n := 14) (v := nI 8) dX12_out_12 rfl (by decide) ?_
  refine x_sld (n := 15) dX12_out_14 rfl hZ (by omega) ?_
  rw [h8.1]
  refine x_ist2 (n := 16) dX12_out_15 rfl (by decide) rfl ?_
  exact l_X12_out hZ hB 400 (vN g 8) (g 9) rfl hq
end
