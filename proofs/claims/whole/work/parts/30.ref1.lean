section
variable {l : Launch} {G : zG} {Z : zS} {I : zI} {Q : Option Value → zS → zI → Prop}
theorem zq_t {b : Bool} (hq : Q (some (.int (zb b))) Z I) (h : b = true) : Q (some (.int (nI 1))) Z I := by subst h; exact hq
theorem zq_f {b : Bool} (hq : Q (some (.int (zb b))) Z I) (h : b = false) : Q (some (.int (nI 0))) Z I := by subst h; exact hq
theorem c_X12_isIn {x lo hi : Int64} (r : Bool) (hr : r = decide (lo.toInt ≤ x.toInt ∧ x.toInt ≤ hi.toInt)) (hq : Q (some (.int (zb r))) Z I) : zM l G mX12_isIn 0 0 0 [.long x, .long lo, .long hi] Z I Q := by
  refine x_entry [some (.long x), none, some (.long lo), none, some (.long hi), none] 0 rfl rfl (Nat.le_of_ble_eq_true rfl) ?_
  refine x_lld0 (n := 1) dX12_isIn_0 rfl ?_
  refine x_lld2 (n := 2) dX12_isIn_1 rfl ?_
  refine x_lcmp (n := 3) dX12_isIn_2 rfl ?_
  refine x_if_lt (n := 6) (tgt := 17) dX12_isIn_3 rfl (by decide) (fun c_3 => ?_) (fun c_3 => ?_)
  · refine x_ic0 (n := 18) dX12_isIn_17 rfl ?_
    refine r_zret dX12_isIn_18 rfl (by first | exact nar0 | exact nar1 | exact zb_nar _) ?_
    simp only [lg_cmp_lt, lg_cmp_gt, zlt64] at *
    first | exact zq_t hq (by rw [hr]; exact decide_eq_true (by omega)) | exact zq_f hq (by rw [hr]; exact decide_eq_false (by omega))
  · refine x_lld0 (n := 7) dX12_isIn_6 rfl ?_
    refine x_lld4 (n := 9) dX12_isIn_7 rfl ?_
    refine x_lcmp (n := 10) dX12_isIn_9 rfl ?_
    refine x_if_gt (n := 13) (tgt := 17) dX12_isIn_10 rfl (by decide) (fun c_10 => ?_) (fun c_10 => ?_)
    · refine x_ic0 (n := 18) dX12_isIn_17 rfl ?_
      refine r_zret dX12_isIn_18 rfl (by first | exact nar0 | exact nar1 | exact zb_nar _) ?_
      simp only [lg_cmp_lt, lg_cmp_gt, zlt64] at *
      first | exact zq_t hq (by rw [hr]; exact decide_eq_true (by omega)) | exact zq_f hq (by rw [hr]; exact decide_eq_false (by omega))
    · refine x_ic1 (n := 14) dX12_isIn_13 rfl ?_
      refine x_goto (n := 18) dX12_isIn_14 (by decide) ?_
      refine r_zret dX12_isIn_18 rfl (by first | exact nar0 | exact nar1 | exact zb_nar _) ?_
      simp only [lg_cmp_lt, lg_cmp_gt, zlt64] at *
      first | exact zq_t hq (by rw [hr]; exact decide_eq_true (by omega)) | exact zq_f hq (by rw [hr]; exact decide_eq_false (by omega))
theorem c_X12_orNone {x : Int32} (hq : Q (some (.int (if x.toInt < 0 then -1000000005 else x))) Z I) : zM l G mX12_orNone 0 0 0 [.int x] Z I Q := by
  refine x_entry [some (.int x)] 0 rfl rfl (Nat.le_of_ble_eq_true rfl) ?_
  refine x_ild0 (n := 1) dX12_orNone_0 rfl ?_
  refine x_if_ge (n := 4) (tgt := 9) dX12_orNone_1 rfl (by decide) (fun c_1 => ?_) (fun c_1 => ?_)
  · refine x_ild0 (n := 10) dX12_orNone_9 rfl ?_
    refine r_iret dX12_orNone_10 rfl ?_
    simp only [zle, Int32.toInt_zero] at c_1
    first | (rw [if_neg (by omega)] at hq; exact hq) | (rw [if_pos (by omega)] at hq; exact hq)
  · refine x_ldc (n := 6) dX12_orNone_4 rfl kiX12_88 ?_
    refine x_goto (n := 10) dX12_orNone_6 (by decide) ?_
    refine r_iret dX12_orNone_10 rfl ?_
    simp only [zle, Int32.toInt_zero] at c_1
    first | (rw [if_neg (by omega)] at hq; exact hq) | (rw [if_pos (by omega)] at hq; exact hq)
theorem c_X12_least {x y : Int32} (hq : Q (some (.int (if x.toInt < y.toInt then x else y))) Z I) : zM l G mX12_least 0 0 0 [.int x, .int y] Z I Q := by
  refine x_entry [some (.int x), some (.int y)] 0 rfl rfl (Nat.le_of_ble_eq_true rfl) ?_
  refine x_ild0 (n := 1) dX12_least_0 rfl ?_
  refine x_ild1 (n := 2) dX12_least_1 rfl ?_
  refine x_icmp_ge (n := 5) (tgt := 9) dX12_least_2 rfl (by decide) (fun c_2 => ?_) (fun c_2 => ?_)
  · refine x_ild1 (n := 10) dX12_least_9 rfl ?_
    refine r_iret dX12_least_10 rfl ?_
    simp only [zle] at c_2
    first | (rw [if_neg (by omega)] at hq; exact hq) | (rw [if_pos (by omega)] at hq; exact hq)
  · refine x_ild0 (n := 6) dX12_least_5 rfl ?_
    refine x_goto (n := 10) dX12_least_6 (by decide) ?_
    refine r_iret dX12_least_10 rfl ?_
    simp only [zle] at c_2
    first | (rw [if_neg (by omega)] at hq; exact hq) | (rw [if_pos (by omega)] at hq; exact hq)
theorem c_X12_size {x : Int32} (hq : Q (some (.int (if x.toInt < 0 then -x else x))) Z I) : zM l G mX12_size 0 0 0 [.int x] Z I Q := by
  refine x_entry [some (.int x)] 0 rfl rfl (Nat.le_of_ble_eq_true rfl) ?_
  refine x_ild0 (n := 1) dX12_size_0 rfl ?_
  refine x_if_ge (n := 4) (tgt := 9) dX12_size_1 rfl (by decide) (fun c_1 => ?_) (fun c_1 => ?_)
  · refine x_ild0 (n := 10) dX12_size_9 rfl ?_
    refine r_iret dX12_size_10 rfl ?_
    simp only [zle, Int32.toInt_zero] at c_1
    first | (rw [if_neg (by omega)] at hq; exact hq) | (rw [if_pos (by omega)] at hq; exact hq)
  · refine x_ild0 (n := 5) dX12_size_4 rfl ?_
    refine x_ineg (n := 6) dX12_size_5 rfl ?_
    refine x_goto (n := 10) dX12_size_6 (by decide) ?_
    refine r_iret dX12_size_10 rfl ?_
    simp only [zle, Int32.toInt_zero] at c_1
    first | (rw [if_neg (by omega)] at hq; exact hq) | (rw [if_pos (by omega)] at hq; exact hq)
theorem c_X12_chainAt {c : Nat} (hq : Q (some (.int (nI (20 + 4 * c)))) Z I) : zM l G mX12_chainAt 0 0 0 [.ref qR, .int (nI c)] Z I Q := by
  refine x_entry [some (.ref qR), some (.int (nI c))] 0 rfl rfl (Nat.le_of_ble_eq_true rfl) ?_
  refine x_bipush (n := 2) (v := nI 20) dX12_chainAt_0 rfl (by decide) ?_
  refine x_ic4 (n := 3) dX12_chainAt_2 rfl ?_
  refine x_ild1 (n := 4) dX12_chainAt_3 rfl ?_
  refine x_imulN (n := 5) dX12_chainAt_4 rfl ?_
  refine x_iaddN (n := 6) dX12_chainAt_5 rfl ?_
  refine r_iret dX12_chainAt_6 rfl ?_
  exact hq
theorem c_X12_workAt {c : Nat} (hq : Q (some (.int (nI (120 + 10 * c)))) Z I) : zM l G mX12_workAt 0 0 0 [.ref qR, .int (nI c)] Z I Q := by
  refine x_entry [some (.ref qR), some (.int (nI c))] 0 rfl rfl (Nat.le_of_ble_eq_true rfl) ?_
  refine x_bipush (n := 2) (v := nI 120) dX12_workAt_0 rfl (by decide) ?_
  refine x_bipush (n := 4) (v := nI 10) dX12_workAt_2 rfl (by decide) ?_
  refine x_ild1 (n := 5) dX12_workAt_4 rfl ?_
  refine x_imulN (n := 6) dX12_workAt_5 rfl ?_
  refine x_iaddN (n := 7) dX12_workAt_6 rfl ?_
  refine r_iret dX12_workAt_7 rfl ?_
  exact hq
theorem c_X12_gangAt {c : Nat} (hq : Q (some (.int (nI (360 + 2 * c)))) Z I) : zM l G mX12_gangAt 0 0 0 [.ref qR, .int (nI c)] Z I Q := by
  refine x_entry [some (.ref qR), some (.int (nI c))] 0 rfl rfl (Nat.le_of_ble_eq_true rfl) ?_
  refine x_sipush (n := 3) (v := nI 360) dX12_gangAt_0 rfl (by decide) ?_
  refine x_ic2 (n := 4) dX12_gangAt_3 rfl ?_
  refine x_ild1 (n := 5) dX12_gangAt_4 rfl ?_
  refine x_imulN (n := 6) dX12_gangAt_5 rfl ?_
  refine x_iaddN (n := 7) dX12_gangAt_6 rfl ?_
  refine r_iret dX12_gangAt_7 rfl ?_
  exact hq
theorem c_X12_textAt {c : Nat} (hq : Q (some (.int (nI (2520 + 200 * c)))) Z I) : zM l G mX12_textAt 0 0 0 [.ref qR, .int (nI c)] Z I Q := by
  refine x_entry [some (.ref qR), some (.int (nI c))] 0 rfl rfl (Nat.le_of_ble_eq_true rfl) ?_
  refine x_sipush (n := 3) (v := nI 2520) dX12_textAt_0 rfl (by decide) ?_
  refine x_sipush (n := 6) (v := nI 200) dX12_textAt_3 rfl (by decide) ?_
  refine x_ild1 (n := 7) dX12_textAt_6 rfl ?_
  refine x_imulN (n := 8) dX12_textAt_7 rfl ?_
  refine x_iaddN (n := 9) dX12_textAt_8 rfl ?_
  refine r_iret dX12_textAt_9 rfl ?_
  exact hq
variable {g : Nat → Int32}
theorem c_X12_becomes (hZ : ShR Z) {k : Nat} {v : Int32} (hk : k < 5530) (hq : Q (some (.int (g k))) Z (va_up I q_s (upd g k v))) : zM l G mX12_becomes 0 0 0 [.ref qR, .int (nI k), .int v] Z (va_up I q_s g) Q := by
  refine x_entry [some (.ref qR), some (.int (nI k)), some (.int v), none] 1 rfl rfl (Nat.le_of_ble_eq_true rfl) ?_
  refine x_ald0 (n := 1) dX12_becomes_0 rfl ?_
  refine x_getR (n := 4) flX12_7 rfl dX12_becomes_1 rfl (rK hZ) (rP_s hZ) ?_
  refine x_ild1 (n := 5) dX12_becomes_4 rfl ?_
  refine x_sld (n := 6) dX12_becomes_5 rfl hZ (by omega) ?_
  refine x_ist3 (n := 7) dX12_becomes_6 rfl (by decide) rfl ?_
  refine x_ald0 (n := 8) dX12_becomes_7 rfl ?_
  refine x_getR (n := 11) flX12_7 rfl dX12_becomes_8 rfl (rK hZ) (rP_s hZ) ?_
  refine x_ild1 (n := 12) dX12_becomes_11 rfl ?_
  refine x_ild2 (n := 13) dX12_becomes_12 rfl ?_
  refine x_sst (n := 14) dX12_becomes_13 rfl hZ (by omega) ?_
  refine x_ild3 (n := 15) dX12_becomes_14 rfl ?_
  refine r_iret dX12_becomes_15 rfl ?_
  exact hq
theorem c_X12_depth (hZ : ShR Z) {c : Nat} (hc : c < 24) (hq : Q (some (.int (g (20 + 4 * c) - g (21 + 4 * c)))) Z (va_up I q_s g)) : zM l G mX12_depth 1 0 0 [.ref qR, .int (nI c)] Z (va_up I q_s g) Q := by
  refine x_entry [some (.ref qR), some (.int (nI c))] 0 rfl rfl (Nat.le_of_ble_eq_true rfl) ?_
  refine x_ald0 (n := 1) dX12_depth_0 rfl ?_
  refine x_getR (n := 4) flX12_7 rfl dX12_depth_1 rfl (rK hZ) (rP_s hZ) ?_
  refine x_ald0 (n := 5) dX12_depth_4 rfl ?_
  refine x_ild1 (n := 6) dX12_depth_5 rfl ?_
  refine x_cV1 (n := 9) (d' := 0) zcX12_chainAt mlX12_84 dX12_depth_6 rfl (rK hZ) (Nat.le_of_ble_eq_true rfl) (Nat.le_of_ble_eq_true rfl) ?_
  refine c_X12_chainAt ?_
  refine x_some ?_
  refine x_ic0 (n := 10) dX12_depth_9 rfl ?_
  refine x_iaddN (n := 11) dX12_depth_10 rfl ?_
  refine x_sld (n := 12) dX12_depth_11 rfl hZ (by omega) ?_
  refine x_ald0 (n := 13) dX12_depth_12 rfl ?_
  refine x_getR (n := 16) flX12_7 rfl dX12_depth_13 rfl (rK hZ) (rP_s hZ) ?_
  refine x_ald0 (n := 17) dX12_depth_16 rfl ?_
  refine x_ild1 (n := 18) dX12_depth_17 rfl ?_
  refine x_cV1 (n := 21) (d' := 0) zcX12_chainAt mlX12_84 dX12_depth_18 rfl (rK hZ) (Nat.le_of_ble_eq_true rfl) (Nat.le_of_ble_eq_true rfl) ?_
  refine c_X12_chainAt ?_
  refine x_some ?_
  refine x_ic1 (n := 22) dX12_depth_21 rfl ?_
  refine x_iaddN (n := 23) dX12_depth_22 rfl ?_
  refine x_sld (n := 24) dX12_depth_23 rfl hZ (by omega) ?_
  refine x_isub (n := 25) dX12_depth_24 rfl ?_
  refine r_iret dX12_depth_25 rfl ?_
  rw [show 20 + 4 * c + 1 = 21 + 4 * c by omega]; exact hq
theorem c_X12_kindOf (hZ : ShR Z) {w : Nat} (hw : w < 24) (hq : Q (some (.int (g (120 + 10 * w)))) Z (va_up I q_s g)) : zM l G mX12_kindOf 1 0 0 [.ref qR, .int (nI w)] Z (va_up I q_s g) Q := by
  refine x_entry [some (.ref qR), some (.int (nI w))] 0 rfl rfl (Nat.le_of_ble_eq_true rfl) ?_
  refine x_ald0 (n := 1) dX12_kindOf_0 rfl ?_
  refine x_getR (n := 4) flX12_7 rfl dX12_kindOf_1 rfl (rK hZ) (rP_s hZ) ?_
  refine x_ald0 (n := 5) dX12_kindOf_4 rfl ?_
  refine x_ild1 (n := 6) dX12_kindOf_5 rfl ?_
  refine x_cV1 (n := 9) (d' := 0) zcX12_workAt mlX12_93 dX12_kindOf_6 rfl (rK hZ) (Nat.le_of_ble_eq_true rfl) (Nat.le_of_ble_eq_true rfl) ?_
  refine c_X12_workAt ?_
  refine x_some ?_
  refine x_sld (n := 10) dX12_kindOf_9 rfl hZ (by omega) ?_
  refine r_iret dX12_kindOf_10 rfl ?_
  exact hq
theorem c_X12_wetOn (hZ : ShR Z) {k : Nat} (hk : k < 10000) (hq : Q (some (.int (if k ≤ 1999 then g (510 + k) else nI 0))) Z (va_up I q_s g)) : zM l G mX12_wetOn 0 0 0 [.ref qR, .int (nI k)] Z (va_up I q_s g) Q := by
  refine x_entry [some (.ref qR), some (.int (nI k))] 0 rfl rfl (Nat.le_of_ble_eq_true rfl) ?_
  refine x_ild1 (n := 1) dX12_wetOn_0 rfl ?_
  refine x_sipush (n := 4) (v := nI 1999) dX12_wetOn_1 rfl (by decide) ?_
  refine x_icmpN_le (n := 7) (tgt := 11) dX12_wetOn_4 rfl (by decide) (by omega) (by omega) (fun c_4 => ?_) (fun c_4 => ?_)
  · refine x_ald0 (n := 12) dX12_wetOn_11 rfl ?_
    refine x_getR (n := 15) flX12_7 rfl dX12_wetOn_12 rfl (rK hZ) (rP_s hZ) ?_
    refine x_sipush (n := 18) (v := nI 510) dX12_wetOn_15 rfl (by decide) ?_
    refine x_ild1 (n := 19) dX12_wetOn_18 rfl ?_
    refine x_iaddN (n := 20) dX12_wetOn_19 rfl ?_
    refine x_sld (n := 21) dX12_wetOn_20 rfl hZ (by omega) ?_
    refine r_iret dX12_wetOn_21 rfl ?_
    first | (rw [if_pos (by omega)] at hq; exact hq) | (rw [if_neg (by omega)] at hq; exact hq)
  · refine x_ic0 (n := 8) dX12_wetOn_7 rfl ?_
    refine x_goto (n := 21) dX12_wetOn_8 (by decide) ?_
    refine r_iret dX12_wetOn_21 rfl ?_
    first | (rw [if_pos (by omega)] at hq; exact hq) | (rw [if_neg (by omega)] at hq; exact hq)
theorem c_X12_isChain (hZ : ShR Z) {x : Int32} {n : Nat} (hn : g 0 = nI n) (h2 : n < 10000) (hq : Q (some (.int (zb (zin x 0 ((n : Int) - 1))))) Z (va_up I q_s g)) : zM l G mX12_isChain 1 0 0 [.ref qR, .int x] Z (va_up I q_s g) Q := by
  refine x_entry [some (.ref qR), some (.int x)] 0 rfl rfl (Nat.le_of_ble_eq_true rfl) ?_
  refine x_ild1 (n := 1) dX12_isChain_0 rfl ?_
  refine x_i2l (n := 2) dX12_isChain_1 rfl ?_
  refine x_lconst (n := 3) (v := 0) dX12_isChain_2 rfl (by decide) ?_
  refine x_ald0 (n := 4) dX12_isChain_3 rfl ?_
  refine x_getR (n := 7) flX12_7 rfl dX12_isChain_4 rfl (rK hZ) (rP_s hZ) ?_
  refine x_ic0 (n := 8) dX12_isChain_7 rfl ?_
  refine x_sld (n := 9) dX12_isChain_8 rfl hZ (by omega) ?_
  rw [hn]
  refine x_ic1 (n := 10) dX12_isChain_9 rfl ?_
  refine x_isub (n := 11) dX12_isChain_10 rfl ?_
  refine x_i2l (n := 12) dX12_isChain_11 rfl ?_
  refine x_cS3 (n := 15) (d' := 0) zcX12_isIn mlX12_89 dX12_isChain_12 rfl (Nat.le_of_ble_eq_true rfl) (Nat.le_of_ble_eq_true rfl) ?_
  refine c_X12_isIn (zin x 0 ((n : Int) - 1)) ?_ ?_
  · unfold zin; rw [zI64, zI64, pk_sub_toInt (by omega) (by omega)]; rfl
  refine x_some ?_
  refine r_zret dX12_isChain_15 rfl (by first | exact nar0 | exact nar1 | exact zb_nar _) ?_
  exact hq
theorem c_X12_isWork (hZ : ShR Z) {x : Int32} {n : Nat} (hn : g 1 = nI n) (h2 : n < 10000) (hq : Q (some (.int (zb (zin x 0 ((n : Int) - 1))))) Z (va_up I q_s g)) : zM l G mX12_isWork 1 0 0 [.ref qR, .int x] Z (va_up I q_s g) Q := by
  refine x_entry [some (.ref qR), some (.int x)] 0 rfl rfl (Nat.le_of_ble_eq_true rfl) ?_
  refine x_ild1 (n := 1) dX12_isWork_0 rfl ?_
  refine x_i2l (n := 2) dX12_isWork_1 rfl ?_
  refine x_lconst (n := 3) (v := 0) dX12_isWork_2 rfl (by decide) ?_
  refine x_ald0 (n := 4) dX12_isWork_3 rfl ?_
  refine x_getR (n := 7) flX12_7 rfl dX12_isWork_4 rfl (rK hZ) (rP_s hZ) ?_
  refine x_ic1 (n := 8) dX12_isWork_7 rfl ?_
  refine x_sld (n := 9) dX12_isWork_8 rfl hZ (by omega) ?_
  rw [hn]
  refine x_ic1 (n := 10) dX12_isWork_9 rfl ?_
  refine x_isub (n := 11) dX12_isWork_10 rfl ?_
  refine x_i2l (n := 12) dX12_isWork_11 rfl ?_
  refine x_cS3 (n := 15) (d' := 0) zcX12_isIn mlX12_89 dX12_isWork_12 rfl (Nat.le_of_ble_eq_true rfl) (Nat.le_of_ble_eq_true rfl) ?_
  refine c_X12_isIn (zin x 0 ((n : Int) - 1)) ?_ ?_
  · unfold zin; rw [zI64, zI64, pk_sub_toInt (by omega) (by omega)]; rfl
  refine x_some ?_
  refine r_zret dX12_isWork_15 rfl (by first | exact nar0 | exact nar1 | exact zb_nar _) ?_
  exact hq
theorem c_X12_isText (hZ : ShR Z) {x : Int32} {n : Nat} (hn : g 3 = nI n) (h2 : n < 10000) (hq : Q (some (.int (zb (zin x 0 ((n : Int) - 1))))) Z (va_up I q_s g)) : zM l G mX12_isText 1 0 0 [.ref qR, .int x] Z (va_up I q_s g) Q := by
  refine x_entry [some (.ref qR), some (.int x)] 0 rfl rfl (Nat.le_of_ble_eq_true rfl) ?_
  refine x_ild1 (n := 1) dX12_isText_0 rfl ?_
  refine x_i2l (n := 2) dX12_isText_1 rfl ?_
  refine x_lconst (n := 3) (v := 0) dX12_isText_2 rfl (by decide) ?_
  refine x_ald0 (n := 4) dX12_isText_3 rfl ?_
  refine x_getR (n := 7) flX12_7 rfl dX12_isText_4 rfl (rK hZ) (rP_s hZ) ?_
  refine x_ic3 (n := 8) dX12_isText_7 rfl ?_
  refine x_sld (n := 9) dX12_isText_8 rfl hZ (by omega) ?_
  rw [hn]
  refine x_ic1 (n := 10) dX12_isText_9 rfl ?_
  refine x_isub (n := 11) dX12_isText_10 rfl ?_
  refine x_i2l (n := 12) dX12_isText_11 rfl ?_
  refine x_cS3 (n := 15) (d' := 0) zcX12_isIn mlX12_89 dX12_isText_12 rfl (Nat.le_of_ble_eq_true rfl) (Nat.le_of_ble_eq_true rfl) ?_
  refine c_X12_isIn (zin x 0 ((n : Int) - 1)) ?_ ?_
  · unfold zin; rw [zI64, zI64, pk_sub_toInt (by omega) (by omega)]; rfl
  refine x_some ?_
  refine r_zret dX12_isText_15 rfl (by first | exact nar0 | exact nar1 | exact zb_nar _) ?_
  exact hq
end
