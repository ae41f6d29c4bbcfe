section
variable {l : Launch} {G : zG} {Z : zS} {I : zI} {g : Nat → Int32} {Q : Option Value → zS → zI → Prop}
def gZ (g : Nat → Int32) (w k : Nat) : Nat → Int32 := fun i => if 120 + 10 * w ≤ i ∧ i < 120 + 10 * w + k then nI 0 else g i
theorem gZ_0 (w : Nat) : gZ g w 0 = g := by funext i; unfold gZ; rw [if_neg (by omega)]
theorem gZ_s (w k : Nat) : upd (gZ g w k) (120 + 10 * w + k) (nI 0) = gZ g w (k + 1) := by
  funext i; unfold upd gZ; grind
theorem gNew_eq {kd ch y : Int32} {w : Nat} (hw : vN g 1 = w) : upd (upd (upd (upd (upd (upd (gZ g w 10) (120 + 10 * w) kd) (120 + 10 * w + 1) ch) (120 + 10 * w + 2) y) (120 + 10 * w + 4) (-1)) (120 + 10 * w + 6) (nI 1)) 1 (nI (w + 1)) = gNew g kd ch y := by
  funext i; unfold upd gZ gNew; rw [hw]; grind
theorem l_X12_newWork (hZ : ShR Z) {kd ch y : Int32} {w : Nat} (hw : w < 24) (kk : zX l G mX12_newWork 1 0 0 39 [some (.ref qR), some (.int kd), some (.int ch), some (.int y), some (.int (nI (120 + 10 * w))), some (.int (nI 10))] [] Z (va_up I q_s (gZ g w 10)) Q) : ∀ m k, k ≤ 10 → 10 - k < m → zX l G mX12_newWork 1 0 0 15 [some (.ref qR), some (.int kd), some (.int ch), some (.int y), some (.int (nI (120 + 10 * w))), some (.int (nI k))] [] Z (va_up I q_s (gZ g w k)) Q := by
  intro m
  induction m with
  | zero => intro k _ h; exact absurd h (by omega)
  | succ m ih =>
    intro k hk hm
    refine x_ild5 (n := 17) dX12_newWork_15 rfl ?_
    refine x_bipush (n := 19) (v := nI 10) dX12_newWork_17 rfl (by decide) ?_
    refine x_icmpN_ge (n := 22) (tgt := 39) dX12_newWork_19 rfl (by decide) (by omega) (by omega) (fun c_19 => ?_) (fun c_19 => ?_)
    · rw [show k = 10 by omega]; exact kk
    · refine x_ald0 (n := 23) dX12_newWork_22 rfl ?_
      refine x_getR (n := 26) flX12_7 rfl dX12_newWork_23 rfl (rK hZ) (rP_s hZ) ?_
      refine x_ild4 (n := 28) dX12_newWork_26 rfl ?_
      refine x_ild5 (n := 30) dX12_newWork_28 rfl ?_
      refine x_iaddN (n := 31) dX12_newWork_30 rfl ?_
      refine x_ic0 (n := 32) dX12_newWork_31 rfl ?_
      refine x_sst (n := 33) dX12_newWork_32 rfl hZ (by omega) ?_
      refine x_iincN5 (n := 36) (k := 1) dX12_newWork_33 rfl (by decide) rfl ?_
      refine x_goto (n := 15) dX12_newWork_36 (by decide) ?_
      rw [gZ_s]
      exact ih (k + 1) (by omega) (by omega)
theorem c_X12_newWork (hZ : ShR Z) {kd ch y : Int32} (h1 : g 1 = nI (vN g 1)) (hw : vN g 1 < 24) (hq : Q (some (.int (nI (vN g 1)))) Z (va_up I q_s (gNew g kd ch y))) : zM l G mX12_newWork 1 0 0 [.ref qR, .int kd, .int ch, .int y] Z (va_up I q_s g) Q := by
  refine x_entry [some (.ref qR), some (.int kd), some (.int ch), some (.int y), none, none] 2 rfl rfl (Nat.le_of_ble_eq_true rfl) ?_
  generalize hwe : vN g 1 = w at *
  have e1 : ∀ (a b c d e : Int32), upd (upd (upd (upd (upd (gZ g w 10) (120 + 10 * w) a) (120 + 10 * w + 1) b) (120 + 10 * w + 2) c) (120 + 10 * w + 4) d) (120 + 10 * w + 6) e 1 = nI w := by
    intro a b c d e; unfold upd gZ; rw [if_neg (by omega), if_neg (by omega), if_neg (by omega), if_neg (by omega), if_neg (by omega), if_neg (by omega)]; exact h1
  refine x_ald0 (n := 1) dX12_newWork_0 rfl ?_
  refine x_ald0 (n := 2) dX12_newWork_1 rfl ?_
  refine x_getR (n := 5) flX12_7 rfl dX12_newWork_2 rfl (rK hZ) (rP_s hZ) ?_
  refine x_ic1 (n := 6) dX12_newWork_5 rfl ?_
  refine x_sld (n := 7) dX12_newWork_6 rfl hZ (by omega) ?_
  rw [h1]
  refine x_cV1 (n := 10) (d' := 0) zcX12_workAt mlX12_93 dX12_newWork_7 rfl (rK hZ) (Nat.le_of_ble_eq_true rfl) (Nat.le_of_ble_eq_true rfl) ?_
  refine c_X12_workAt ?_
  refine x_some ?_
  refine x_ist4 (n := 12) dX12_newWork_10 rfl (by decide) rfl ?_
  refine x_ic0 (n := 13) dX12_newWork_12 rfl ?_
  refine x_ist5 (n := 15) dX12_newWork_13 rfl (by decide) rfl ?_
  rw [← gZ_0 (g := g) w]
  refine l_X12_newWork hZ hw ?_ 11 0 (by omega) (by omega)
  refine x_ald0 (n := 40) dX12_newWork_39 rfl ?_
  refine x_getR (n := 43) flX12_7 rfl dX12_newWork_40 rfl (rK hZ) (rP_s hZ) ?_
  refine x_ild4 (n := 45) dX12_newWork_43 rfl ?_
  refine x_ild1 (n := 46) dX12_newWork_45 rfl ?_
  refine x_sst (n := 47) dX12_newWork_46 rfl hZ (by omega) ?_
  refine x_ald0 (n := 48) dX12_newWork_47 rfl ?_
  refine x_getR (n := 51) flX12_7 rfl dX12_newWork_48 rfl (rK hZ) (rP_s hZ) ?_
  refine x_ild4 (n := 53) dX12_newWork_51 rfl ?_
  refine x_ic1 (n := 54) dX12_newWork_53 rfl ?_
  refine x_iaddN (n := 55) dX12_newWork_54 rfl ?_
  refine x_ild2 (n := 56) dX12_newWork_55 rfl ?_
  refine x_sst (n := 57) dX12_newWork_56 rfl hZ (by omega) ?_
  refine x_ald0 (n := 58) dX12_newWork_57 rfl ?_
  refine x_getR (n := 61) flX12_7 rfl dX12_newWork_58 rfl (rK hZ) (rP_s hZ) ?_
  refine x_ild4 (n := 63) dX12_newWork_61 rfl ?_
  refine x_ic2 (n := 64) dX12_newWork_63 rfl ?_
  refine x_iaddN (n := 65) dX12_newWork_64 rfl ?_
  refine x_ild3 (n := 66) dX12_newWork_65 rfl ?_
  refine x_sst (n := 67) dX12_newWork_66 rfl hZ (by omega) ?_
  refine x_ald0 (n := 68) dX12_newWork_67 rfl ?_
  refine x_getR (n := 71) flX12_7 rfl dX12_newWork_68 rfl (rK hZ) (rP_s hZ) ?_
  refine x_ild4 (n := 73) dX12_newWork_71 rfl ?_
  refine x_ic4 (n := 74) dX12_newWork_73 rfl ?_
  refine x_iaddN (n := 75) dX12_newWork_74 rfl ?_
  refine x_icm1 (n := 76) dX12_newWork_75 rfl ?_
  refine x_sst (n := 77) dX12_newWork_76 rfl hZ (by omega) ?_
  refine x_ald0 (n := 78) dX12_newWork_77 rfl ?_
  refine x_getR (n := 81) flX12_7 rfl dX12_newWork_78 rfl (rK hZ) (rP_s hZ) ?_
  refine x_ild4 (n := 83) dX12_newWork_81 rfl ?_
  refine x_bipush (n := 85) (v := nI 6) dX12_newWork_83 rfl (by decide) ?_
  refine x_iaddN (n := 86) dX12_newWork_85 rfl ?_
  refine x_ic1 (n := 87) dX12_newWork_86 rfl ?_
  refine x_sst (n := 88) dX12_newWork_87 rfl hZ (by omega) ?_
  refine x_ald0 (n := 89) dX12_newWork_88 rfl ?_
  refine x_getR (n := 92) flX12_7 rfl dX12_newWork_89 rfl (rK hZ) (rP_s hZ) ?_
  refine x_ic1 (n := 93) dX12_newWork_92 rfl ?_
  refine x_dup2 (n := 94) dX12_newWork_93 rfl rfl rfl ?_
  refine x_sld (n := 95) dX12_newWork_94 rfl hZ (by omega) ?_
  rw [e1]
  refine x_ic1 (n := 96) dX12_newWork_95 rfl ?_
  refine x_iaddN (n := 97) dX12_newWork_96 rfl ?_
  refine x_sst (n := 98) dX12_newWork_97 rfl hZ (by omega) ?_
  refine x_ald0 (n := 99) dX12_newWork_98 rfl ?_
  refine x_getR (n := 102) flX12_7 rfl dX12_newWork_99 rfl (rK hZ) (rP_s hZ) ?_
  refine x_ic1 (n := 103) dX12_newWork_102 rfl ?_
  refine x_sld (n := 104) dX12_newWork_103 rfl hZ (by omega) ?_
  rw [gNew_eq hwe]
  rw [show gNew g kd ch y 1 = nI (w + 1) by unfold gNew; rw [hwe]; rw [if_neg (by omega), if_pos rfl]]
  refine x_ic1 (n := 105) dX12_newWork_104 rfl ?_
  refine x_isubN (n := 106) dX12_newWork_105 rfl (by omega) ?_
  refine r_iret dX12_newWork_106 rfl ?_
  exact hq
theorem c_X12_work (hZ : ShR Z) (hB : InvB g) {k c y : Int32} (hq : Q (some (.int (f_work g k c y).1)) Z (va_up I q_s (f_work g k c y).2)) : zM l G mX12_work 2 0 0 [.ref qR, .int k, .int c, .int y] Z (va_up I q_s g) Q := by
  have h0 := iv0 hB
  have h1 := iv1 hB
  refine x_entry [some (.ref qR), some (.int k), some (.int c), some (.int y)] 0 rfl rfl (Nat.le_of_ble_eq_true rfl) ?_
  unfold f_work at hq
  refine x_ild1 (n := 1) dX12_work_0 rfl ?_
  refine x_i2l (n := 2) dX12_work_1 rfl ?_
  refine x_lconst (n := 3) (v := 0) dX12_work_2 rfl (by decide) ?_
  refine x_ldc2 (n := 6) dX12_work_3 rfl klX12_145 ?_
  refine x_cS3 (n := 9) (d' := 0) zcX12_isIn mlX12_89 dX12_work_6 rfl (Nat.le_of_ble_eq_true rfl) (Nat.le_of_ble_eq_true rfl) ?_
  refine c_X12_isIn (zin k 0 6) (by unfold zin; rw [zI64]; rfl) ?_
  refine x_some ?_
  refine x_zif_eq (n := 12) (tgt := 37) dX12_work_9 rfl (by decide) (fun c_9 => ?_) (fun c_9 => ?_)
  · rw [if_neg (by grind)] at hq
    refine x_ldc (n := 39) dX12_work_37 rfl kiX12_100 ?_
    refine r_iret dX12_work_39 rfl ?_
    exact hq
  · refine x_ild1 (n := 13) dX12_work_12 rfl ?_
    refine x_ic5 (n := 14) dX12_work_13 rfl ?_
    refine x_icmp_eq (n := 17) (tgt := 37) dX12_work_14 rfl (by decide) (fun c_14 => ?_) (fun c_14 => ?_)
    · rw [if_neg (by grind)] at hq
      refine x_ldc (n := 39) dX12_work_37 rfl kiX12_100 ?_
      refine r_iret dX12_work_39 rfl ?_
      exact hq
    · refine x_ald0 (n := 18) dX12_work_17 rfl ?_
      refine x_ild2 (n := 19) dX12_work_18 rfl ?_
      refine x_cV1 (n := 22) (d' := 1) zcX12_isChain mlX12_102 dX12_work_19 rfl (rK hZ) (Nat.le_of_ble_eq_true rfl) (Nat.le_of_ble_eq_true rfl) ?_
      refine c_X12_isChain hZ h0.1 (by omega) ?_
      refine x_some ?_
      refine x_zif_eq (n := 25) (tgt := 37) dX12_work_22 rfl (by decide) (fun c_22 => ?_) (fun c_22 => ?_)
      · rw [if_neg (by grind)] at hq
        refine x_ldc (n := 39) dX12_work_37 rfl kiX12_100 ?_
        refine r_iret dX12_work_39 rfl ?_
        exact hq
      · refine x_ild3 (n := 26) dX12_work_25 rfl ?_
        refine x_i2l (n := 27) dX12_work_26 rfl ?_
        refine x_lconst (n := 28) (v := 1) dX12_work_27 rfl (by decide) ?_
        refine x_ldc2 (n := 31) dX12_work_28 rfl klX12_147 ?_
        refine x_cS3 (n := 34) (d' := 0) zcX12_isIn mlX12_89 dX12_work_31 rfl (Nat.le_of_ble_eq_true rfl) (Nat.le_of_ble_eq_true rfl) ?_
        refine c_X12_isIn (zin y 1 9999) (by unfold zin; rw [zI64]; rfl) ?_
        refine x_some ?_
        refine x_zif_ne (n := 37) (tgt := 40) dX12_work_34 rfl (by decide) (fun c_34 => ?_) (fun c_34 => ?_)
        · rw [if_pos ⟨c_9, c_14, c_22, c_34⟩] at hq
          refine x_ald0 (n := 41) dX12_work_40 rfl ?_
          refine x_getR (n := 44) flX12_7 rfl dX12_work_41 rfl (rK hZ) (rP_s hZ) ?_
          refine x_ic1 (n := 45) dX12_work_44 rfl ?_
          refine x_sld (n := 46) dX12_work_45 rfl hZ (by omega) ?_
          rw [h1.1]
          refine x_bipush (n := 48) (v := nI 24) dX12_work_46 rfl (by decide) ?_
          refine x_icmpN_ne (n := 51) (tgt := 56) dX12_work_48 rfl (by decide) (by omega) (by omega) (fun c_48 => ?_) (fun c_48 => ?_)
          · refine x_ald0 (n := 57) dX12_work_56 rfl ?_
            refine x_ild1 (n := 58) dX12_work_57 rfl ?_
            refine x_ild2 (n := 59) dX12_work_58 rfl ?_
            refine x_ild3 (n := 60) dX12_work_59 rfl ?_
            refine x_cV3 (n := 63) (d' := 1) zcX12_newWork mlX12_150 dX12_work_60 rfl (rK hZ) (Nat.le_of_ble_eq_true rfl) (Nat.le_of_ble_eq_true rfl) ?_
            rw [if_neg c_48] at hq
            refine c_X12_newWork hZ h1.1 (by omega) ?_
            refine x_some ?_
            refine r_iret dX12_work_63 rfl ?_
            exact hq
          · rw [if_pos c_48] at hq
            refine x_ldc (n := 53) dX12_work_51 rfl kiX12_149 ?_
            refine x_goto (n := 63) dX12_work_53 (by decide) ?_
            refine r_iret dX12_work_63 rfl ?_
            exact hq
        · rw [if_neg (by grind)] at hq
          refine x_ldc (n := 39) dX12_work_37 rfl kiX12_100 ?_
          refine r_iret dX12_work_39 rfl ?_
          exact hq
theorem c_X12_gang (hZ : ShR Z) (hB : InvB g) {v : Int32} (hq : Q (some (.int (f_gang g v).1)) Z (va_up I q_s (f_gang g v).2)) : zM l G mX12_gang 1 0 0 [.ref qR, .int v] Z (va_up I q_s g) Q := by
  have h2 := iv2 hB
  refine x_entry [some (.ref qR), some (.int v)] 0 rfl rfl (Nat.le_of_ble_eq_true rfl) ?_
  unfold f_gang at hq
  refine x_ild1 (n := 1) dX12_gang_0 rfl ?_
  refine x_i2l (n := 2) dX12_gang_1 rfl ?_
  refine x_lconst (n := 3) (v := 1) dX12_gang_2 rfl (by decide) ?_
  refine x_ldc2 (n := 6) dX12_gang_3 rfl klX12_108 ?_
  refine x_cS3 (n := 9) (d' := 0) zcX12_isIn mlX12_89 dX12_gang_6 rfl (Nat.le_of_ble_eq_true rfl) (Nat.le_of_ble_eq_true rfl) ?_
  refine c_X12_isIn (zin v 1 99) (by unfold zin; rw [zI64]; rfl) ?_
  refine x_some ?_
  refine x_zif_ne (n := 12) (tgt := 15) dX12_gang_9 rfl (by decide) (fun c_9 => ?_) (fun c_9 => ?_)
  · rw [if_pos c_9] at hq
    refine x_ald0 (n := 16) dX12_gang_15 rfl ?_
    refine x_getR (n := 19) flX12_7 rfl dX12_gang_16 rfl (rK hZ) (rP_s hZ) ?_
    refine x_ic2 (n := 20) dX12_gang_19 rfl ?_
    refine x_sld (n := 21) dX12_gang_20 rfl hZ (by omega) ?_
    rw [h2.1]
    refine x_bipush (n := 23) (v := nI 8) dX12_gang_21 rfl (by decide) ?_
    refine x_icmpN_ne (n := 26) (tgt := 29) dX12_gang_23 rfl (by decide) (by omega) (by omega) (fun c_23 => ?_) (fun c_23 => ?_)
    · rw [if_neg c_23] at hq
      refine x_ald0 (n := 30) dX12_gang_29 rfl ?_
      refine x_getR (n := 33) flX12_7 rfl dX12_gang_30 rfl (rK hZ) (rP_s hZ) ?_
      refine x_ald0 (n := 34) dX12_gang_33 rfl ?_
      refine x_ald0 (n := 35) dX12_gang_34 rfl ?_
      refine x_getR (n := 38) flX12_7 rfl dX12_gang_35 rfl (rK hZ) (rP_s hZ) ?_
      refine x_ic2 (n := 39) dX12_gang_38 rfl ?_
      refine x_sld (n := 40) dX12_gang_39 rfl hZ (by omega) ?_
      rw [h2.1]
      refine x_cV1 (n := 43) (d' := 0) zcX12_gangAt mlX12_177 dX12_gang_40 rfl (rK hZ) (Nat.le_of_ble_eq_true rfl) (Nat.le_of_ble_eq_true rfl) ?_
      refine c_X12_gangAt ?_
      refine x_some ?_
      refine x_ild1 (n := 44) dX12_gang_43 rfl ?_
      refine x_sst (n := 45) dX12_gang_44 rfl hZ (by omega) ?_
      refine x_ald0 (n := 46) dX12_gang_45 rfl ?_
      refine x_getR (n := 49) flX12_7 rfl dX12_gang_46 rfl (rK hZ) (rP_s hZ) ?_
      refine x_ald0 (n := 50) dX12_gang_49 rfl ?_
      refine x_ald0 (n := 51) dX12_gang_50 rfl ?_
      refine x_getR (n := 54) flX12_7 rfl dX12_gang_51 rfl (rK hZ) (rP_s hZ) ?_
      refine x_ic2 (n := 55) dX12_gang_54 rfl ?_
      refine x_sld (n := 56) dX12_gang_55 rfl hZ (by omega) ?_
      rw [show upd g (360 + 2 * vN g 2) v 2 = nI (vN g 2) by unfold upd; rw [if_neg (by omega)]; exact h2.1]
      refine x_cV1 (n := 59) (d' := 0) zcX12_gangAt mlX12_177 dX12_gang_56 rfl (rK hZ) (Nat.le_of_ble_eq_true rfl) (Nat.le_of_ble_eq_true rfl) ?_
      refine c_X12_gangAt ?_
      refine x_some ?_
      refine x_ic1 (n := 60) dX12_gang_59 rfl ?_
      refine x_iaddN (n := 61) dX12_gang_60 rfl ?_
      refine x_icm1 (n := 62) dX12_gang_61 rfl ?_
      refine x_sst (n := 63) dX12_gang_62 rfl hZ (by omega) ?_
      refine x_ald0 (n := 64) dX12_gang_63 rfl ?_
      refine x_getR (n := 67) flX12_7 rfl dX12_gang_64 rfl (rK hZ) (rP_s hZ) ?_
      refine x_ic2 (n := 68) dX12_gang_67 rfl ?_
      refine x_dup2 (n := 69) dX12_gang_68 rfl rfl rfl ?_
      refine x_sld (n := 70) dX12_gang_69 rfl hZ (by omega) ?_
      rw [show upd (upd g (360 + 2 * vN g 2) v) (360 + 2 * vN g 2 + 1) (-1) 2 = nI (vN g 2) by unfold upd; rw [if_neg (by omega), if_neg (by omega)]; exact h2.1]
      refine x_ic1 (n := 71) dX12_gang_70 rfl ?_
      refine x_iaddN (n := 72) dX12_gang_71 rfl ?_
      refine x_sst (n := 73) dX12_gang_72 rfl hZ (by omega) ?_
      refine x_ald0 (n := 74) dX12_gang_73 rfl ?_
      refine x_getR (n := 77) flX12_7 rfl dX12_gang_74 rfl (rK hZ) (rP_s hZ) ?_
      refine x_ic2 (n := 78) dX12_gang_77 rfl ?_
      refine x_sld (n := 79) dX12_gang_78 rfl hZ (by omega) ?_
      rw [show upd (upd (upd g (360 + 2 * vN g 2) v) (360 + 2 * vN g 2 + 1) (-1)) 2 (nI (vN g 2 + 1)) 2 = nI (vN g 2 + 1) from if_pos rfl]
      refine x_ic1 (n := 80) dX12_gang_79 rfl ?_
      refine x_isubN (n := 81) dX12_gang_80 rfl (by omega) ?_
      refine r_iret dX12_gang_81 rfl ?_
      exact hq
    · rw [if_pos c_23] at hq
      refine x_ldc (n := 28) dX12_gang_26 rfl kiX12_149 ?_
      refine r_iret dX12_gang_28 rfl ?_
      exact hq
  · rw [if_neg (by grind)] at hq
    refine x_ldc (n := 14) dX12_gang_12 rfl kiX12_100 ?_
    refine r_iret dX12_gang_14 rfl ?_
    exact hq
theorem gLeave_at (hB : InvB g) {k i : Nat} (hk : k < vN g 2) (hi : 360 ≤ i) : gLeave g k i = g i := by
  unfold gLeave
  split
  · rfl
  · have h := rg_le (g := g) (i := 360 + 2 * k + 1) (lo := 0) (hi := (vN g 1 : Int) - 1) ⟨by omega, (ivG hB hk).2.2⟩ (by omega)
    have h1 := iv1 hB
    unfold upd
    rw [if_neg (by omega)]
theorem c_X12_goesN (hZ : ShR Z) (hB : InvB g) {x : Int32} (hq : Q (some (.int (f_goes g x (-1000000005)).1)) Z (va_up I q_s (f_goes g x (-1000000005)).2)) : zM l G mX12_goes 2 0 0 [.ref qR, .int x, .int (-1000000005)] Z (va_up I q_s g) Q := by
  have h1 := iv1 hB
  have h2 := iv2 hB
  refine x_entry [some (.ref qR), some (.int x), some (.int (-1000000005)), none, none] 2 rfl rfl (Nat.le_of_ble_eq_true rfl) ?_
  unfold f_goes at hq
  rw [if_pos rfl] at hq
  refine x_ild1 (n := 1) dX12_goes_0 rfl ?_
  refine x_i2l (n := 2) dX12_goes_1 rfl ?_
  refine x_lconst (n := 3) (v := 0) dX12_goes_2 rfl (by decide) ?_
  refine x_ald0 (n := 4) dX12_goes_3 rfl ?_
  refine x_getR (n := 7) flX12_7 rfl dX12_goes_4 rfl (rK hZ) (rP_s hZ) ?_
  refine x_ic2 (n := 8) dX12_goes_7 rfl ?_
  refine x_sld (n := 9) dX12_goes_8 rfl hZ (by omega) ?_
  rw [h2.1]
  refine x_ic1 (n := 10) dX12_goes_9 rfl ?_
  refine x_isub (n := 11) dX12_goes_10 rfl ?_
  refine x_i2l (n := 12) dX12_goes_11 rfl ?_
  refine x_cS3 (n := 15) (d' := 0) zcX12_isIn mlX12_89 dX12_goes_12 rfl (Nat.le_of_ble_eq_true rfl) (Nat.le_of_ble_eq_true rfl) ?_
  refine c_X12_isIn (zin x 0 ((vN g 2 : Int) - 1)) (by unfold zin; rw [zI64, zI64, pk_sub_toInt (by omega) (by omega)]; rfl) ?_
  refine x_some ?_
  refine x_zif_eq (n := 18) (tgt := 32) dX12_goes_15 rfl (by decide) (fun c_15 => ?_) (fun c_15 => ?_)
  · rw [if_neg (by grind)] at hq
    refine x_ldc (n := 34) dX12_goes_32 rfl kiX12_100 ?_
    refine r_iret dX12_goes_34 rfl ?_
    exact hq
  · rw [if_pos ⟨c_15, Or.inl rfl⟩] at hq
    obtain ⟨k, hk, rfl⟩ := z_chain c_15
    rw [ix_nI (by omega)] at hq
    have hg := ivG hB hk
    refine x_ild2 (n := 19) dX12_goes_18 rfl ?_
    refine x_ldc (n := 21) dX12_goes_19 rfl kiX12_88 ?_
    refine x_icmp_eq (n := 24) (tgt := 35) dX12_goes_21 rfl (by decide) (fun c_21 => ?_) (fun c_21 => ?_)
    · refine x_ild2 (n := 36) dX12_goes_35 rfl ?_
      refine x_ldc (n := 38) dX12_goes_36 rfl kiX12_88 ?_
      refine x_icmp_ne (n := 41) (tgt := 45) dX12_goes_38 rfl (by decide) (fun c_38 => ?_) (fun c_38 => ?_)
      · exact absurd rfl c_38
      · refine x_icm1 (n := 42) dX12_goes_41 rfl ?_
        refine x_goto (n := 57) dX12_goes_42 (by decide) ?_
        refine x_ist3 (n := 58) dX12_goes_57 rfl (by decide) rfl ?_
        refine x_ild3 (n := 59) dX12_goes_58 rfl ?_
        refine x_if_lt (n := 62) (tgt := 70) dX12_goes_59 rfl (by decide) (fun c_59 => ?_) (fun c_59 => ?_)
        · refine x_ald0 (n := 71) dX12_goes_70 rfl ?_
          refine x_getR (n := 74) flX12_7 rfl dX12_goes_71 rfl (rK hZ) (rP_s hZ) ?_
          refine x_ald0 (n := 75) dX12_goes_74 rfl ?_
          refine x_ild1 (n := 76) dX12_goes_75 rfl ?_
          refine x_cV1 (n := 79) (d' := 0) zcX12_gangAt mlX12_177 dX12_goes_76 rfl (rK hZ) (Nat.le_of_ble_eq_true rfl) (Nat.le_of_ble_eq_true rfl) ?_
          refine c_X12_gangAt ?_
          refine x_some ?_
          refine x_ic1 (n := 80) dX12_goes_79 rfl ?_
          refine x_iaddN (n := 81) dX12_goes_80 rfl ?_
          refine x_sld (n := 82) dX12_goes_81 rfl hZ (by omega) ?_
          refine x_ist4 (n := 84) dX12_goes_82 rfl (by decide) rfl ?_
          refine x_ild4 (n := 86) dX12_goes_84 rfl ?_
          refine x_if_lt (n := 89) (tgt := 103) dX12_goes_86 rfl (by decide) (fun c_86 => ?_) (fun c_86 => ?_)
          · refine x_ald0 (n := 104) dX12_goes_103 rfl ?_
            refine x_getR (n := 107) flX12_7 rfl dX12_goes_104 rfl (rK hZ) (rP_s hZ) ?_
            refine x_ald0 (n := 108) dX12_goes_107 rfl ?_
            refine x_ild1 (n := 109) dX12_goes_108 rfl ?_
            refine x_cV1 (n := 112) (d' := 0) zcX12_gangAt mlX12_177 dX12_goes_109 rfl (rK hZ) (Nat.le_of_ble_eq_true rfl) (Nat.le_of_ble_eq_true rfl) ?_
            refine c_X12_gangAt ?_
            refine x_some ?_
            refine x_ic1 (n := 113) dX12_goes_112 rfl ?_
            refine x_iaddN (n := 114) dX12_goes_113 rfl ?_
            refine x_ild2 (n := 115) dX12_goes_114 rfl ?_
            refine x_ldc (n := 117) dX12_goes_115 rfl kiX12_88 ?_
            refine x_icmp_ne (n := 120) (tgt := 124) dX12_goes_117 rfl (by decide) (fun c_117 => ?_) (fun c_117 => ?_)
            · exact absurd rfl c_117
            · refine x_icm1 (n := 121) dX12_goes_120 rfl ?_
              refine x_goto (n := 125) dX12_goes_121 (by decide) ?_
              refine x_sst (n := 126) dX12_goes_125 rfl hZ (by omega) ?_
              refine x_ild2 (n := 127) dX12_goes_126 rfl ?_
              refine x_ldc (n := 129) dX12_goes_127 rfl kiX12_88 ?_
              refine x_icmp_eq (n := 132) (tgt := 145) dX12_goes_129 rfl (by decide) (fun c_129 => ?_) (fun c_129 => ?_)
              · refine x_ild4 (n := 147) dX12_goes_145 rfl ?_
                refine x_cS1 (n := 150) (d' := 0) zcX12_orNone mlX12_159 dX12_goes_147 rfl (Nat.le_of_ble_eq_true rfl) (Nat.le_of_ble_eq_true rfl) ?_
                refine c_X12_orNone ?_
                refine x_some ?_
                refine r_iret dX12_goes_150 rfl ?_
                unfold gLeave at hq
                first | (rw [if_neg c_86] at hq; rw [← hv]; exact hq) | (rw [zlt, Int32.toInt_zero] at c_86; rw [if_pos c_86] at hq; exact hq)
              · exact absurd rfl c_129
          · rw [zlt, Int32.toInt_zero] at c_86
            have hv := rg_nI (g := g) (i := 360 + 2 * k + 1) (lo := 0) (hi := (vN g 1 : Int) - 1) ⟨by omega, hg.2.2⟩ (by omega) (by omega)
            have hv2 := rg_le (g := g) (i := 360 + 2 * k + 1) (lo := 0) (hi := (vN g 1 : Int) - 1) ⟨by omega, hg.2.2⟩ (by omega)
            refine x_ald0 (n := 90) dX12_goes_89 rfl ?_
            refine x_getR (n := 93) flX12_7 rfl dX12_goes_90 rfl (rK hZ) (rP_s hZ) ?_
            refine x_ald0 (n := 94) dX12_goes_93 rfl ?_
            refine x_ild4 (n := 96) dX12_goes_94 rfl ?_
            rw [hv]
            skip
            refine x_cV1 (n := 99) (d' := 0) zcX12_workAt mlX12_93 dX12_goes_96 rfl (rK hZ) (Nat.le_of_ble_eq_true rfl) (Nat.le_of_ble_eq_true rfl) ?_
            refine c_X12_workAt ?_
            refine x_some ?_
            refine x_ic4 (n := 100) dX12_goes_99 rfl ?_
            refine x_iaddN (n := 101) dX12_goes_100 rfl ?_
            refine x_icm1 (n := 102) dX12_goes_101 rfl ?_
            refine x_sst (n := 103) dX12_goes_102 rfl hZ (by omega) ?_
            refine x_ald0 (n := 104) dX12_goes_103 rfl ?_
            refine x_getR (n := 107) flX12_7 rfl dX12_goes_104 rfl (rK hZ) (rP_s hZ) ?_
            refine x_ald0 (n := 108) dX12_goes_107 rfl ?_
            refine x_ild1 (n := 109) dX12_goes_108 rfl ?_
            refine x_cV1 (n := 112) (d' := 0) zcX12_gangAt mlX12_177 dX12_goes_109 rfl (rK hZ) (Nat.le_of_ble_eq_true rfl) (Nat.le_of_ble_eq_true rfl) ?_
            refine c_X12_gangAt ?_
            refine x_some ?_
            refine x_ic1 (n := 113) dX12_goes_112 rfl ?_
            refine x_iaddN (n := 114) dX12_goes_113 rfl ?_
            refine x_ild2 (n := 115) dX12_goes_114 rfl ?_
            refine x_ldc (n := 117) dX12_goes_115 rfl kiX12_88 ?_
            refine x_icmp_ne (n := 120) (tgt := 124) dX12_goes_117 rfl (by decide) (fun c_117 => ?_) (fun c_117 => ?_)
            · exact absurd rfl c_117
            · refine x_icm1 (n := 121) dX12_goes_120 rfl ?_
              refine x_goto (n := 125) dX12_goes_121 (by decide) ?_
              refine x_sst (n := 126) dX12_goes_125 rfl hZ (by omega) ?_
              refine x_ild2 (n := 127) dX12_goes_126 rfl ?_
              refine x_ldc (n := 129) dX12_goes_127 rfl kiX12_88 ?_
              refine x_icmp_eq (n := 132) (tgt := 145) dX12_goes_129 rfl (by decide) (fun c_129 => ?_) (fun c_129 => ?_)
              · refine x_ild4 (n := 147) dX12_goes_145 rfl ?_
                refine x_cS1 (n := 150) (d' := 0) zcX12_orNone mlX12_159 dX12_goes_147 rfl (Nat.le_of_ble_eq_true rfl) (Nat.le_of_ble_eq_true rfl) ?_
                refine c_X12_orNone ?_
                refine x_some ?_
                refine r_iret dX12_goes_150 rfl ?_
                unfold gLeave at hq
                first | (rw [if_neg c_86] at hq; rw [← hv]; exact hq) | (rw [zlt, Int32.toInt_zero] at c_86; rw [if_pos c_86] at hq; exact hq)
              · exact absurd rfl c_129
        · exact absurd c_59 (by decide)
    · exact absurd rfl c_21
theorem c_X12_goesW (hZ : ShR Z) (hB : InvB g) {x y : Int32} (hy : ¬ y = -1000000005) (hq : Q (some (.int (f_goes g x y).1)) Z (va_up I q_s (f_goes g x y).2)) : zM l G mX12_goes 2 0 0 [.ref qR, .int x, .int y] Z (va_up I q_s g) Q := by
  have h1 := iv1 hB
  have h2 := iv2 hB
  refine x_entry [some (.ref qR), some (.int x), some (.int y), none, none] 2 rfl rfl (Nat.le_of_ble_eq_true rfl) ?_
  unfold f_goes at hq
  rw [if_neg hy] at hq
  refine x_ild1 (n := 1) dX12_goes_0 rfl ?_
  refine x_i2l (n := 2) dX12_goes_1 rfl ?_
  refine x_lconst (n := 3) (v := 0) dX12_goes_2 rfl (by decide) ?_
  refine x_ald0 (n := 4) dX12_goes_3 rfl ?_
  refine x_getR (n := 7) flX12_7 rfl dX12_goes_4 rfl (rK hZ) (rP_s hZ) ?_
  refine x_ic2 (n := 8) dX12_goes_7 rfl ?_
  refine x_sld (n := 9) dX12_goes_8 rfl hZ (by omega) ?_
  rw [h2.1]
  refine x_ic1 (n := 10) dX12_goes_9 rfl ?_
  refine x_isub (n := 11) dX12_goes_10 rfl ?_
  refine x_i2l (n := 12) dX12_goes_11 rfl ?_
  refine x_cS3 (n := 15) (d' := 0) zcX12_isIn mlX12_89 dX12_goes_12 rfl (Nat.le_of_ble_eq_true rfl) (Nat.le_of_ble_eq_true rfl) ?_
  refine c_X12_isIn (zin x 0 ((vN g 2 : Int) - 1)) (by unfold zin; rw [zI64, zI64, pk_sub_toInt (by omega) (by omega)]; rfl) ?_
  refine x_some ?_
  refine x_zif_eq (n := 18) (tgt := 32) dX12_goes_15 rfl (by decide) (fun c_15 => ?_) (fun c_15 => ?_)
  · rw [if_neg (by grind)] at hq
    refine x_ldc (n := 34) dX12_goes_32 rfl kiX12_100 ?_
    refine r_iret dX12_goes_34 rfl ?_
    exact hq
  · refine x_ild2 (n := 19) dX12_goes_18 rfl ?_
    refine x_ldc (n := 21) dX12_goes_19 rfl kiX12_88 ?_
    refine x_icmp_eq (n := 24) (tgt := 35) dX12_goes_21 rfl (by decide) (fun c_21 => ?_) (fun c_21 => ?_)
    · exact absurd c_21 hy
    · refine x_ald0 (n := 25) dX12_goes_24 rfl ?_
      refine x_ild2 (n := 26) dX12_goes_25 rfl ?_
      refine x_cV1 (n := 29) (d' := 1) zcX12_isWork mlX12_156 dX12_goes_26 rfl (rK hZ) (Nat.le_of_ble_eq_true rfl) (Nat.le_of_ble_eq_true rfl) ?_
      refine c_X12_isWork hZ h1.1 (by omega) ?_
      refine x_some ?_
      refine x_zif_ne (n := 32) (tgt := 35) dX12_goes_29 rfl (by decide) (fun c_29 => ?_) (fun c_29 => ?_)
      · rw [if_pos ⟨c_15, Or.inr c_29⟩] at hq
        obtain ⟨k, hk, rfl⟩ := z_chain c_15
        obtain ⟨w, hw, rfl⟩ := z_chain c_29
        rw [ix_nI (by omega), ix_nI (by omega)] at hq
        have hg := ivG hB hk
        refine x_ild2 (n := 36) dX12_goes_35 rfl ?_
        refine x_ldc (n := 38) dX12_goes_36 rfl kiX12_88 ?_
        refine x_icmp_ne (n := 41) (tgt := 45) dX12_goes_38 rfl (by decide) (fun c_38 => ?_) (fun c_38 => ?_)
        · refine x_ald0 (n := 46) dX12_goes_45 rfl ?_
          refine x_getR (n := 49) flX12_7 rfl dX12_goes_46 rfl (rK hZ) (rP_s hZ) ?_
          refine x_ald0 (n := 50) dX12_goes_49 rfl ?_
          refine x_ild2 (n := 51) dX12_goes_50 rfl ?_
          refine x_cV1 (n := 54) (d' := 0) zcX12_workAt mlX12_93 dX12_goes_51 rfl (rK hZ) (Nat.le_of_ble_eq_true rfl) (Nat.le_of_ble_eq_true rfl) ?_
          refine c_X12_workAt ?_
          refine x_some ?_
          refine x_ic4 (n := 55) dX12_goes_54 rfl ?_
          refine x_iaddN (n := 56) dX12_goes_55 rfl ?_
          refine x_sld (n := 57) dX12_goes_56 rfl hZ (by omega) ?_
          refine x_ist3 (n := 58) dX12_goes_57 rfl (by decide) rfl ?_
          refine x_ild3 (n := 59) dX12_goes_58 rfl ?_
          refine x_if_lt (n := 62) (tgt := 70) dX12_goes_59 rfl (by decide) (fun c_59 => ?_) (fun c_59 => ?_)
          · rw [if_pos (by rw [zlt, Int32.toInt_zero] at c_59; first | exact Or.inl c_59 | exact Or.inr c_64)] at hq
            refine x_ald0 (n := 71) dX12_goes_70 rfl ?_
            refine x_getR (n := 74) flX12_7 rfl dX12_goes_71 rfl (rK hZ) (rP_s hZ) ?_
            refine x_ald0 (n := 75) dX12_goes_74 rfl ?_
            refine x_ild1 (n := 76) dX12_goes_75 rfl ?_
            refine x_cV1 (n := 79) (d' := 0) zcX12_gangAt mlX12_177 dX12_goes_76 rfl (rK hZ) (Nat.le_of_ble_eq_true rfl) (Nat.le_of_ble_eq_true rfl) ?_
            refine c_X12_gangAt ?_
            refine x_some ?_
            refine x_ic1 (n := 80) dX12_goes_79 rfl ?_
            refine x_iaddN (n := 81) dX12_goes_80 rfl ?_
            refine x_sld (n := 82) dX12_goes_81 rfl hZ (by omega) ?_
            refine x_ist4 (n := 84) dX12_goes_82 rfl (by decide) rfl ?_
            refine x_ild4 (n := 86) dX12_goes_84 rfl ?_
            refine x_if_lt (n := 89) (tgt := 103) dX12_goes_86 rfl (by decide) (fun c_86 => ?_) (fun c_86 => ?_)
            · refine x_ald0 (n := 104) dX12_goes_103 rfl ?_
              refine x_getR (n := 107) flX12_7 rfl dX12_goes_104 rfl (rK hZ) (rP_s hZ) ?_
              refine x_ald0 (n := 108) dX12_goes_107 rfl ?_
              refine x_ild1 (n := 109) dX12_goes_108 rfl ?_
              refine x_cV1 (n := 112) (d' := 0) zcX12_gangAt mlX12_177 dX12_goes_109 rfl (rK hZ) (Nat.le_of_ble_eq_true rfl) (Nat.le_of_ble_eq_true rfl) ?_
              refine c_X12_gangAt ?_
              refine x_some ?_
              refine x_ic1 (n := 113) dX12_goes_112 rfl ?_
              refine x_iaddN (n := 114) dX12_goes_113 rfl ?_
              refine x_ild2 (n := 115) dX12_goes_114 rfl ?_
              refine x_ldc (n := 117) dX12_goes_115 rfl kiX12_88 ?_
              refine x_icmp_ne (n := 120) (tgt := 124) dX12_goes_117 rfl (by decide) (fun c_117 => ?_) (fun c_117 => ?_)
              · refine x_ild2 (n := 125) dX12_goes_124 rfl ?_
                refine x_sst (n := 126) dX12_goes_125 rfl hZ (by omega) ?_
                refine x_ild2 (n := 127) dX12_goes_126 rfl ?_
                refine x_ldc (n := 129) dX12_goes_127 rfl kiX12_88 ?_
                refine x_icmp_eq (n := 132) (tgt := 145) dX12_goes_129 rfl (by decide) (fun c_129 => ?_) (fun c_129 => ?_)
                · exact absurd c_129 hy
                · refine x_ald0 (n := 133) dX12_goes_132 rfl ?_
                  refine x_getR (n := 136) flX12_7 rfl dX12_goes_133 rfl (rK hZ) (rP_s hZ) ?_
                  refine x_ald0 (n := 137) dX12_goes_136 rfl ?_
                  refine x_ild2 (n := 138) dX12_goes_137 rfl ?_
                  refine x_cV1 (n := 141) (d' := 0) zcX12_workAt mlX12_93 dX12_goes_138 rfl (rK hZ) (Nat.le_of_ble_eq_true rfl) (Nat.le_of_ble_eq_true rfl) ?_
                  refine c_X12_workAt ?_
                  refine x_some ?_
                  refine x_ic4 (n := 142) dX12_goes_141 rfl ?_
                  refine x_iaddN (n := 143) dX12_goes_142 rfl ?_
                  refine x_ild1 (n := 144) dX12_goes_143 rfl ?_
                  refine x_sst (n := 145) dX12_goes_144 rfl hZ (by omega) ?_
                  refine x_ild4 (n := 147) dX12_goes_145 rfl ?_
                  refine x_cS1 (n := 150) (d' := 0) zcX12_orNone mlX12_159 dX12_goes_147 rfl (Nat.le_of_ble_eq_true rfl) (Nat.le_of_ble_eq_true rfl) ?_
                  refine c_X12_orNone ?_
                  refine x_some ?_
                  refine r_iret dX12_goes_150 rfl ?_
                  unfold gLeave at hq
                  first | (rw [if_neg c_86] at hq; rw [← hv]; exact hq) | (rw [zlt, Int32.toInt_zero] at c_86; rw [if_pos c_86] at hq; exact hq)
              · exact absurd c_117 hy
            · rw [zlt, Int32.toInt_zero] at c_86
              have hv := rg_nI (g := g) (i := 360 + 2 * k + 1) (lo := 0) (hi := (vN g 1 : Int) - 1) ⟨by omega, hg.2.2⟩ (by omega) (by omega)
              have hv2 := rg_le (g := g) (i := 360 + 2 * k + 1) (lo := 0) (hi := (vN g 1 : Int) - 1) ⟨by omega, hg.2.2⟩ (by omega)
              refine x_ald0 (n := 90) dX12_goes_89 rfl ?_
              refine x_getR (n := 93) flX12_7 rfl dX12_goes_90 rfl (rK hZ) (rP_s hZ) ?_
              refine x_ald0 (n := 94) dX12_goes_93 rfl ?_
              refine x_ild4 (n := 96) dX12_goes_94 rfl ?_
              rw [hv]
              refine x_cV1 (n := 99) (d' := 0) zcX12_workAt mlX12_93 dX12_goes_96 rfl (rK hZ) (Nat.le_of_ble_eq_true rfl) (Nat.le_of_ble_eq_true rfl) ?_
              refine c_X12_workAt ?_
              refine x_some ?_
              refine x_ic4 (n := 100) dX12_goes_99 rfl ?_
              refine x_iaddN (n := 101) dX12_goes_100 rfl ?_
              refine x_icm1 (n := 102) dX12_goes_101 rfl ?_
              refine x_sst (n := 103) dX12_goes_102 rfl hZ (by omega) ?_
              refine x_ald0 (n := 104) dX12_goes_103 rfl ?_
              refine x_getR (n := 107) flX12_7 rfl dX12_goes_104 rfl (rK hZ) (rP_s hZ) ?_
              refine x_ald0 (n := 108) dX12_goes_107 rfl ?_
              refine x_ild1 (n := 109) dX12_goes_108 rfl ?_
              refine x_cV1 (n := 112) (d' := 0) zcX12_gangAt mlX12_177 dX12_goes_109 rfl (rK hZ) (Nat.le_of_ble_eq_true rfl) (Nat.le_of_ble_eq_true rfl) ?_
              refine c_X12_gangAt ?_
              refine x_some ?_
              refine x_ic1 (n := 113) dX12_goes_112 rfl ?_
              refine x_iaddN (n := 114) dX12_goes_113 rfl ?_
              refine x_ild2 (n := 115) dX12_goes_114 rfl ?_
              refine x_ldc (n := 117) dX12_goes_115 rfl kiX12_88 ?_
              refine x_icmp_ne (n := 120) (tgt := 124) dX12_goes_117 rfl (by decide) (fun c_117 => ?_) (fun c_117 => ?_)
              · refine x_ild2 (n := 125) dX12_goes_124 rfl ?_
                refine x_sst (n := 126) dX12_goes_125 rfl hZ (by omega) ?_
                refine x_ild2 (n := 127) dX12_goes_126 rfl ?_
                refine x_ldc (n := 129) dX12_goes_127 rfl kiX12_88 ?_
                refine x_icmp_eq (n := 132) (tgt := 145) dX12_goes_129 rfl (by decide) (fun c_129 => ?_) (fun c_129 => ?_)
                · exact absurd c_129 hy
                · refine x_ald0 (n := 133) dX12_goes_132 rfl ?_
                  refine x_getR (n := 136) flX12_7 rfl dX12_goes_133 rfl (rK hZ) (rP_s hZ) ?_
                  refine x_ald0 (n := 137) dX12_goes_136 rfl ?_
                  refine x_ild2 (n := 138) dX12_goes_137 rfl ?_
                  refine x_cV1 (n := 141) (d' := 0) zcX12_workAt mlX12_93 dX12_goes_138 rfl (rK hZ) (Nat.le_of_ble_eq_true rfl) (Nat.le_of_ble_eq_true rfl) ?_
                  refine c_X12_workAt ?_
                  refine x_some ?_
                  refine x_ic4 (n := 142) dX12_goes_141 rfl ?_
                  refine x_iaddN (n := 143) dX12_goes_142 rfl ?_
                  refine x_ild1 (n := 144) dX12_goes_143 rfl ?_
                  refine x_sst (n := 145) dX12_goes_144 rfl hZ (by omega) ?_
                  refine x_ild4 (n := 147) dX12_goes_145 rfl ?_
                  refine x_cS1 (n := 150) (d' := 0) zcX12_orNone mlX12_159 dX12_goes_147 rfl (Nat.le_of_ble_eq_true rfl) (Nat.le_of_ble_eq_true rfl) ?_
                  refine c_X12_orNone ?_
                  refine x_some ?_
                  refine r_iret dX12_goes_150 rfl ?_
                  unfold gLeave at hq
                  first | (rw [if_neg c_86] at hq; rw [← hv]; exact hq) | (rw [zlt, Int32.toInt_zero] at c_86; rw [if_pos c_86] at hq; exact hq)
              · exact absurd c_117 hy
          · refine x_ild3 (n := 63) dX12_goes_62 rfl ?_
            refine x_ild1 (n := 64) dX12_goes_63 rfl ?_
            refine x_icmp_eq (n := 67) (tgt := 70) dX12_goes_64 rfl (by decide) (fun c_64 => ?_) (fun c_64 => ?_)
            · rw [if_pos (by rw [zlt, Int32.toInt_zero] at c_59; first | exact Or.inl c_59 | exact Or.inr c_64)] at hq
              refine x_ald0 (n := 71) dX12_goes_70 rfl ?_
              refine x_getR (n := 74) flX12_7 rfl dX12_goes_71 rfl (rK hZ) (rP_s hZ) ?_
              refine x_ald0 (n := 75) dX12_goes_74 rfl ?_
              refine x_ild1 (n := 76) dX12_goes_75 rfl ?_
              refine x_cV1 (n := 79) (d' := 0) zcX12_gangAt mlX12_177 dX12_goes_76 rfl (rK hZ) (Nat.le_of_ble_eq_true rfl) (Nat.le_of_ble_eq_true rfl) ?_
              refine c_X12_gangAt ?_
              refine x_some ?_
              refine x_ic1 (n := 80) dX12_goes_79 rfl ?_
              refine x_iaddN (n := 81) dX12_goes_80 rfl ?_
              refine x_sld (n := 82) dX12_goes_81 rfl hZ (by omega) ?_
              refine x_ist4 (n := 84) dX12_goes_82 rfl (by decide) rfl ?_
              refine x_ild4 (n := 86) dX12_goes_84 rfl ?_
              refine x_if_lt (n := 89) (tgt := 103) dX12_goes_86 rfl (by decide) (fun c_86 => ?_) (fun c_86 => ?_)
              · refine x_ald0 (n := 104) dX12_goes_103 rfl ?_
                refine x_getR (n := 107) flX12_7 rfl dX12_goes_104 rfl (rK hZ) (rP_s hZ) ?_
                refine x_ald0 (n := 108) dX12_goes_107 rfl ?_
                refine x_ild1 (n := 109) dX12_goes_108 rfl ?_
                refine x_cV1 (n := 112) (d' := 0) zcX12_gangAt mlX12_177 dX12_goes_109 rfl (rK hZ) (Nat.le_of_ble_eq_true rfl) (Nat.le_of_ble_eq_true rfl) ?_
                refine c_X12_gangAt ?_
                refine x_some ?_
                refine x_ic1 (n := 113) dX12_goes_112 rfl ?_
                refine x_iaddN (n := 114) dX12_goes_113 rfl ?_
                refine x_ild2 (n := 115) dX12_goes_114 rfl ?_
                refine x_ldc (n := 117) dX12_goes_115 rfl kiX12_88 ?_
                refine x_icmp_ne (n := 120) (tgt := 124) dX12_goes_117 rfl (by decide) (fun c_117 => ?_) (fun c_117 => ?_)
                · refine x_ild2 (n := 125) dX12_goes_124 rfl ?_
                  refine x_sst (n := 126) dX12_goes_125 rfl hZ (by omega) ?_
                  refine x_ild2 (n := 127) dX12_goes_126 rfl ?_
                  refine x_ldc (n := 129) dX12_goes_127 rfl kiX12_88 ?_
                  refine x_icmp_eq (n := 132) (tgt := 145) dX12_goes_129 rfl (by decide) (fun c_129 => ?_) (fun c_129 => ?_)
                  · exact absurd c_129 hy
                  · refine x_ald0 (n := 133) dX12_goes_132 rfl ?_
                    refine x_getR (n := 136) flX12_7 rfl dX12_goes_133 rfl (rK hZ) (rP_s hZ) ?_
                    refine x_ald0 (n := 137) dX12_goes_136 rfl ?_
                    refine x_ild2 (n := 138) dX12_goes_137 rfl ?_
                    refine x_cV1 (n := 141) (d' := 0) zcX12_workAt mlX12_93 dX12_goes_138 rfl (rK hZ) (Nat.le_of_ble_eq_true rfl) (Nat.le_of_ble_eq_true rfl) ?_
                    refine c_X12_workAt ?_
                    refine x_some ?_
                    refine x_ic4 (n := 142) dX12_goes_141 rfl ?_
                    refine x_iaddN (n := 143) dX12_goes_142 rfl ?_
                    refine x_ild1 (n := 144) dX12_goes_143 rfl ?_
                    refine x_sst (n := 145) dX12_goes_144 rfl hZ (by omega) ?_
                    refine x_ild4 (n := 147) dX12_goes_145 rfl ?_
                    refine x_cS1 (n := 150) (d' := 0) zcX12_orNone mlX12_159 dX12_goes_147 rfl (Nat.le_of_ble_eq_true rfl) (Nat.le_of_ble_eq_true rfl) ?_
                    refine c_X12_orNone ?_
                    refine x_some ?_
                    refine r_iret dX12_goes_150 rfl ?_
                    unfold gLeave at hq
                    first | (rw [if_neg c_86] at hq; rw [← hv]; exact hq) | (rw [zlt, Int32.toInt_zero] at c_86; rw [if_pos c_86] at hq; exact hq)
                · exact absurd c_117 hy
              · rw [zlt, Int32.toInt_zero] at c_86
                have hv := rg_nI (g := g) (i := 360 + 2 * k + 1) (lo := 0) (hi := (vN g 1 : Int) - 1) ⟨by omega, hg.2.2⟩ (by omega) (by omega)
                have hv2 := rg_le (g := g) (i := 360 + 2 * k + 1) (lo := 0) (hi := (vN g 1 : Int) - 1) ⟨by omega, hg.2.2⟩ (by omega)
                refine x_ald0 (n := 90) dX12_goes_89 rfl ?_
                refine x_getR (n := 93) flX12_7 rfl dX12_goes_90 rfl (rK hZ) (rP_s hZ) ?_
                refine x_ald0 (n := 94) dX12_goes_93 rfl ?_
                refine x_ild4 (n := 96) dX12_goes_94 rfl ?_
                rw [hv]
                refine x_cV1 (n := 99) (d' := 0) zcX12_workAt mlX12_93 dX12_goes_96 rfl (rK hZ) (Nat.le_of_ble_eq_true rfl) (Nat.le_of_ble_eq_true rfl) ?_
                refine c_X12_workAt ?_
                refine x_some ?_
                refine x_ic4 (n := 100) dX12_goes_99 rfl ?_
                refine x_iaddN (n := 101) dX12_goes_100 rfl ?_
                refine x_icm1 (n := 102) dX12_goes_101 rfl ?_
                refine x_sst (n := 103) dX12_goes_102 rfl hZ (by omega) ?_
                refine x_ald0 (n := 104) dX12_goes_103 rfl ?_
                refine x_getR (n := 107) flX12_7 rfl dX12_goes_104 rfl (rK hZ) (rP_s hZ) ?_
                refine x_ald0 (n := 108) dX12_goes_107 rfl ?_
                refine x_ild1 (n := 109) dX12_goes_108 rfl ?_
                refine x_cV1 (n := 112) (d' := 0) zcX12_gangAt mlX12_177 dX12_goes_109 rfl (rK hZ) (Nat.le_of_ble_eq_true rfl) (Nat.le_of_ble_eq_true rfl) ?_
                refine c_X12_gangAt ?_
                refine x_some ?_
                refine x_ic1 (n := 113) dX12_goes_112 rfl ?_
                refine x_iaddN (n := 114) dX12_goes_113 rfl ?_
                refine x_ild2 (n := 115) dX12_goes_114 rfl ?_
                refine x_ldc (n := 117) dX12_goes_115 rfl kiX12_88 ?_
                refine x_icmp_ne (n := 120) (tgt := 124) dX12_goes_117 rfl (by decide) (fun c_117 => ?_) (fun c_117 => ?_)
                · refine x_ild2 (n := 125) dX12_goes_124 rfl ?_
                  refine x_sst (n := 126) dX12_goes_125 rfl hZ (by omega) ?_
                  refine x_ild2 (n := 127) dX12_goes_126 rfl ?_
                  refine x_ldc (n := 129) dX12_goes_127 rfl kiX12_88 ?_
                  refine x_icmp_eq (n := 132) (tgt := 145) dX12_goes_129 rfl (by decide) (fun c_129 => ?_) (fun c_129 => ?_)
                  · exact absurd c_129 hy
                  · refine x_ald0 (n := 133) dX12_goes_132 rfl ?_
                    refine x_getR (n := 136) flX12_7 rfl dX12_goes_133 rfl (rK hZ) (rP_s hZ) ?_
                    refine x_ald0 (n := 137) dX12_goes_136 rfl ?_
                    refine x_ild2 (n := 138) dX12_goes_137 rfl ?_
                    refine x_cV1 (n := 141) (d' := 0) zcX12_workAt mlX12_93 dX12_goes_138 rfl (rK hZ) (Nat.le_of_ble_eq_true rfl) (Nat.le_of_ble_eq_true rfl) ?_
                    refine c_X12_workAt ?_
                    refine x_some ?_
                    refine x_ic4 (n := 142) dX12_goes_141 rfl ?_
                    refine x_iaddN (n := 143) dX12_goes_142 rfl ?_
                    refine x_ild1 (n := 144) dX12_goes_143 rfl ?_
                    refine x_sst (n := 145) dX12_goes_144 rfl hZ (by omega) ?_
                    refine x_ild4 (n := 147) dX12_goes_145 rfl ?_
                    refine x_cS1 (n := 150) (d' := 0) zcX12_orNone mlX12_159 dX12_goes_147 rfl (Nat.le_of_ble_eq_true rfl) (Nat.le_of_ble_eq_true rfl) ?_
                    refine c_X12_orNone ?_
                    refine x_some ?_
                    refine r_iret dX12_goes_150 rfl ?_
                    unfold gLeave at hq
                    first | (rw [if_neg c_86] at hq; rw [← hv]; exact hq) | (rw [zlt, Int32.toInt_zero] at c_86; rw [if_pos c_86] at hq; exact hq)
                · exact absurd c_117 hy
            · rw [zlt, Int32.toInt_zero] at c_59
              rw [if_neg (by rintro (h | h); exact c_59 h; exact c_64 h)] at hq
              refine x_ldc (n := 69) dX12_goes_67 rfl kiX12_101 ?_
              refine r_iret dX12_goes_69 rfl ?_
              exact hq
        · exact absurd c_38 hy
      · rw [if_neg (by grind)] at hq
        refine x_ldc (n := 34) dX12_goes_32 rfl kiX12_100 ?_
        refine r_iret dX12_goes_34 rfl ?_
        exact hq
theorem c_X12_goes (hZ : ShR Z) (hB : InvB g) {x y : Int32} (hq : Q (some (.int (f_goes g x y).1)) Z (va_up I q_s (f_goes g x y).2)) : zM l G mX12_goes 2 0 0 [.ref qR, .int x, .int y] Z (va_up I q_s g) Q := by
  by_cases hy : y = -1000000005
  · subst hy; exact c_X12_goesN hZ hB hq
  · exact c_X12_goesW hZ hB hy hq
end
