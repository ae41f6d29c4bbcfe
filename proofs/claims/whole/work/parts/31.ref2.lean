section
variable {l : Launch} {G : zG} {Z : zS} {I : zI} {g : Nat → Int32} {Q : Option Value → zS → zI → Prop}
/-- the first k chains begun -/
def gBeg (g : Nat → Int32) (n k : Nat) : Nat → Int32 := fun i => if i = 0 then nI n else if 20 ≤ i ∧ i < 20 + 4 * k then (if (i - 20) % 4 = 0 then nI 50 else if (i - 20) % 4 = 1 then nI 50 else if (i - 20) % 4 = 2 then nI 0 else -1) else g i
theorem gBeg_0 (g : Nat → Int32) (n : Nat) : upd g 0 (nI n) = gBeg g n 0 := by
  funext i; unfold upd gBeg
  by_cases h : i = 0
  · simp [h]
  · rw [if_neg h, if_neg h, if_neg (by omega)]
theorem gBeg_s (g : Nat → Int32) (n k : Nat) : upd (upd (upd (upd (gBeg g n k) (20 + 4 * k) (nI 50)) (20 + 4 * k + 1) (nI 50)) (20 + 4 * k + 2) (nI 0)) (20 + 4 * k + 3) (-1) = gBeg g n (k + 1) := by
  funext i; unfold upd gBeg
  by_cases h3 : i = 20 + 4 * k + 3
  · subst h3; rw [if_pos rfl, if_neg (by omega), if_pos (by omega), if_neg (by omega), if_neg (by omega), if_neg (by omega)]
  · rw [if_neg h3]
    by_cases h2 : i = 20 + 4 * k + 2
    · subst h2; rw [if_pos rfl, if_neg (by omega), if_pos (by omega), if_neg (by omega), if_neg (by omega), if_pos (by omega)]
    · rw [if_neg h2]
      by_cases h1 : i = 20 + 4 * k + 1
      · subst h1; rw [if_pos rfl, if_neg (by omega), if_pos (by omega), if_neg (by omega), if_pos (by omega)]
      · rw [if_neg h1]
        by_cases h0 : i = 20 + 4 * k
        · subst h0; rw [if_pos rfl, if_neg (by omega), if_pos (by omega), if_pos (by omega)]
        · rw [if_neg h0]
          by_cases hz : i = 0
          · rw [if_pos hz, if_pos hz]
          · rw [if_neg hz, if_neg hz]
            by_cases hk : 20 ≤ i ∧ i < 20 + 4 * k
            · have hk2 : 20 ≤ i ∧ i < 20 + 4 * (k + 1) := by omega
              rw [if_pos hk, if_pos hk2]
            · have hk2 : ¬ (20 ≤ i ∧ i < 20 + 4 * (k + 1)) := by omega
              rw [if_neg hk, if_neg hk2]
theorem l_X12_begins (hZ : ShR Z) {n : Nat} (hn : n ≤ 24) (hq : Q none Z (va_up I q_s (gBeg g n n))) : ∀ m k, k ≤ n → n - k < m → zX l G mX12_begins 1 0 0 9 [some (.ref qR), some (.int (nI n)), some (.int (nI k))] [] Z (va_up I q_s (gBeg g n k)) Q := by
  intro m
  induction m with
  | zero => intro k _ h; exact absurd h (by omega)
  | succ m ih =>
    intro k hk hm
    refine x_ild2 (n := 10) dX12_begins_9 rfl ?_
    refine x_ild1 (n := 11) dX12_begins_10 rfl ?_
    refine x_icmpN_ge (n := 14) (tgt := 74) dX12_begins_11 rfl (by decide) (by omega) (by omega) (fun c_11 => ?_) (fun c_11 => ?_)
    · refine r_vret dX12_begins_74 rfl ?_
      rw [show k = n by omega]; exact hq
    · refine x_ald0 (n := 15) dX12_begins_14 rfl ?_
      refine x_getR (n := 18) flX12_7 rfl dX12_begins_15 rfl (rK hZ) (rP_s hZ) ?_
      refine x_ald0 (n := 19) dX12_begins_18 rfl ?_
      refine x_ild2 (n := 20) dX12_begins_19 rfl ?_
      refine x_cV1 (n := 23) (d' := 0) zcX12_chainAt mlX12_84 dX12_begins_20 rfl (rK hZ) (Nat.le_of_ble_eq_true rfl) (Nat.le_of_ble_eq_true rfl) ?_
      refine c_X12_chainAt ?_
      refine x_some ?_
      refine x_ic0 (n := 24) dX12_begins_23 rfl ?_
      refine x_iaddN (n := 25) dX12_begins_24 rfl ?_
      refine x_bipush (n := 27) (v := nI 50) dX12_begins_25 rfl (by decide) ?_
      refine x_sst (n := 28) dX12_begins_27 rfl hZ (by omega) ?_
      refine x_ald0 (n := 29) dX12_begins_28 rfl ?_
      refine x_getR (n := 32) flX12_7 rfl dX12_begins_29 rfl (rK hZ) (rP_s hZ) ?_
      refine x_ald0 (n := 33) dX12_begins_32 rfl ?_
      refine x_ild2 (n := 34) dX12_begins_33 rfl ?_
      refine x_cV1 (n := 37) (d' := 0) zcX12_chainAt mlX12_84 dX12_begins_34 rfl (rK hZ) (Nat.le_of_ble_eq_true rfl) (Nat.le_of_ble_eq_true rfl) ?_
      refine c_X12_chainAt ?_
      refine x_some ?_
      refine x_ic1 (n := 38) dX12_begins_37 rfl ?_
      refine x_iaddN (n := 39) dX12_begins_38 rfl ?_
      refine x_bipush (n := 41) (v := nI 50) dX12_begins_39 rfl (by decide) ?_
      refine x_sst (n := 42) dX12_begins_41 rfl hZ (by omega) ?_
      refine x_ald0 (n := 43) dX12_begins_42 rfl ?_
      refine x_getR (n := 46) flX12_7 rfl dX12_begins_43 rfl (rK hZ) (rP_s hZ) ?_
      refine x_ald0 (n := 47) dX12_begins_46 rfl ?_
      refine x_ild2 (n := 48) dX12_begins_47 rfl ?_
      refine x_cV1 (n := 51) (d' := 0) zcX12_chainAt mlX12_84 dX12_begins_48 rfl (rK hZ) (Nat.le_of_ble_eq_true rfl) (Nat.le_of_ble_eq_true rfl) ?_
      refine c_X12_chainAt ?_
      refine x_some ?_
      refine x_ic2 (n := 52) dX12_begins_51 rfl ?_
      refine x_iaddN (n := 53) dX12_begins_52 rfl ?_
      refine x_ic0 (n := 54) dX12_begins_53 rfl ?_
      refine x_sst (n := 55) dX12_begins_54 rfl hZ (by omega) ?_
      refine x_ald0 (n := 56) dX12_begins_55 rfl ?_
      refine x_getR (n := 59) flX12_7 rfl dX12_begins_56 rfl (rK hZ) (rP_s hZ) ?_
      refine x_ald0 (n := 60) dX12_begins_59 rfl ?_
      refine x_ild2 (n := 61) dX12_begins_60 rfl ?_
      refine x_cV1 (n := 64) (d' := 0) zcX12_chainAt mlX12_84 dX12_begins_61 rfl (rK hZ) (Nat.le_of_ble_eq_true rfl) (Nat.le_of_ble_eq_true rfl) ?_
      refine c_X12_chainAt ?_
      refine x_some ?_
      refine x_ic3 (n := 65) dX12_begins_64 rfl ?_
      refine x_iaddN (n := 66) dX12_begins_65 rfl ?_
      refine x_icm1 (n := 67) dX12_begins_66 rfl ?_
      refine x_sst (n := 68) dX12_begins_67 rfl hZ (by omega) ?_
      refine x_iincN2 (n := 71) (k := 1) dX12_begins_68 rfl (by decide) rfl ?_
      refine x_goto (n := 9) dX12_begins_71 (by decide) ?_
      rw [show 20 + 4 * k + 0 = 20 + 4 * k from rfl, gBeg_s]
      exact ih (k + 1) (by omega) (by omega)
theorem c_X12_begins (hZ : ShR Z) {n : Nat} (hn : n ≤ 24) (hq : Q none Z (va_up I q_s (gBegin g n))) : zM l G mX12_begins 1 0 0 [.ref qR, .int (nI n)] Z (va_up I q_s g) Q := by
  refine x_entry [some (.ref qR), some (.int (nI n)), none] 1 rfl rfl (Nat.le_of_ble_eq_true rfl) ?_
  refine x_ald0 (n := 1) dX12_begins_0 rfl ?_
  refine x_getR (n := 4) flX12_7 rfl dX12_begins_1 rfl (rK hZ) (rP_s hZ) ?_
  refine x_ic0 (n := 5) dX12_begins_4 rfl ?_
  refine x_ild1 (n := 6) dX12_begins_5 rfl ?_
  refine x_sst (n := 7) dX12_begins_6 rfl hZ (by omega) ?_
  refine x_ic0 (n := 8) dX12_begins_7 rfl ?_
  refine x_ist2 (n := 9) dX12_begins_8 rfl (by decide) rfl ?_
  rw [gBeg_0]
  exact l_X12_begins hZ hn (by exact hq) (n + 1) 0 (by omega) (by omega)
theorem c_X12_chains (hZ : ShR Z) {x : Int32} (hq : Q (some (.int (f_chains g x).1)) Z (va_up I q_s (f_chains g x).2)) : zM l G mX12_chains 2 0 0 [.ref qR, .int x] Z (va_up I q_s g) Q := by
  refine x_entry [some (.ref qR), some (.int x), none] 1 rfl rfl (Nat.le_of_ble_eq_true rfl) ?_
  refine x_ild1 (n := 1) dX12_chains_0 rfl ?_
  refine x_i2l (n := 2) dX12_chains_1 rfl ?_
  refine x_ldc2 (n := 5) dX12_chains_2 rfl klX12_96 ?_
  refine x_ldc2 (n := 8) dX12_chains_5 rfl klX12_98 ?_
  refine x_cS3 (n := 11) (d' := 0) zcX12_isIn mlX12_89 dX12_chains_8 rfl (Nat.le_of_ble_eq_true rfl) (Nat.le_of_ble_eq_true rfl) ?_
  refine c_X12_isIn (zin x 2 24) (by unfold zin; rw [zI64]; rfl) ?_
  refine x_some ?_
  refine x_zif_ne (n := 14) (tgt := 17) dX12_chains_11 rfl (by decide) (fun c_11 => ?_) (fun c_11 => ?_)
  · refine x_ald0 (n := 18) dX12_chains_17 rfl ?_
    refine x_getR (n := 21) flX12_7 rfl dX12_chains_18 rfl (rK hZ) (rP_s hZ) ?_
    refine x_ic1 (n := 22) dX12_chains_21 rfl ?_
    refine x_sld (n := 23) dX12_chains_22 rfl hZ (by omega) ?_
    refine x_if_le (n := 26) (tgt := 29) dX12_chains_23 rfl (by decide) (fun c_23 => ?_) (fun c_23 => ?_)
    · obtain ⟨c, hc, hc2, rfl⟩ := z_num 25 (x := x) (hi := 24) (by unfold zin at *; simp only [decide_eq_true_eq] at *; omega) (by omega)
      refine x_ald0 (n := 30) dX12_chains_29 rfl ?_
      refine x_getR (n := 33) flX12_7 rfl dX12_chains_30 rfl (rK hZ) (rP_s hZ) ?_
      refine x_ic0 (n := 34) dX12_chains_33 rfl ?_
      refine x_sld (n := 35) dX12_chains_34 rfl hZ (by omega) ?_
      refine x_ist2 (n := 36) dX12_chains_35 rfl (by decide) rfl ?_
      refine x_ald0 (n := 37) dX12_chains_36 rfl ?_
      refine x_ild1 (n := 38) dX12_chains_37 rfl ?_
      refine x_cV1 (n := 41) (d' := 1) zcX12_begins mlX12_80 dX12_chains_38 rfl (rK hZ) (Nat.le_of_ble_eq_true rfl) (Nat.le_of_ble_eq_true rfl) ?_
      refine c_X12_begins hZ (by omega) ?_
      refine x_none ?_
      refine x_ild2 (n := 42) dX12_chains_41 rfl ?_
      refine r_iret dX12_chains_42 rfl ?_
      unfold f_chains at hq; rw [if_pos c_11, if_pos (by rw [zle, Int32.toInt_zero] at c_23; omega), ix_nI (by omega)] at hq; exact hq
    · refine x_ldc (n := 28) dX12_chains_26 rfl kiX12_101 ?_
      refine r_iret dX12_chains_28 rfl ?_
      unfold f_chains at hq; rw [if_pos c_11, if_neg (by rw [zle, Int32.toInt_zero] at c_23; omega)] at hq; exact hq
  · refine x_ldc (n := 16) dX12_chains_14 rfl kiX12_100 ?_
    refine r_iret dX12_chains_16 rfl ?_
    unfold f_chains at hq; rw [if_neg (by rw [c_11]; decide)] at hq; exact hq
theorem c_X12_set (hZ : ShR Z) {x y v : Int32} (hn : g 0 = nI (vN g 0)) (h2 : vN g 0 ≤ 24) (hq : Q (some (.int (f_set g x y v).1)) Z (va_up I q_s (f_set g x y v).2)) : zM l G mX12_set 2 0 0 [.ref qR, .int x, .int y, .int v] Z (va_up I q_s g) Q := by
  refine x_entry [some (.ref qR), some (.int x), some (.int y), some (.int v)] 0 rfl rfl (Nat.le_of_ble_eq_true rfl) ?_
  refine x_ald0 (n := 1) dX12_set_0 rfl ?_
  refine x_ild1 (n := 2) dX12_set_1 rfl ?_
  refine x_cV1 (n := 5) (d' := 1) zcX12_isChain mlX12_102 dX12_set_2 rfl (rK hZ) (Nat.le_of_ble_eq_true rfl) (Nat.le_of_ble_eq_true rfl) ?_
  refine c_X12_isChain hZ hn (by omega) ?_
  refine x_some ?_
  refine x_zif_eq (n := 8) (tgt := 43) dX12_set_5 rfl (by decide) (fun c_5 => ?_) (fun c_5 => ?_)
  · refine x_ldc (n := 45) dX12_set_43 rfl kiX12_100 ?_
    refine r_iret dX12_set_45 rfl ?_
    unfold f_set at hq; rw [if_neg (by rintro ⟨h1, h2, h3⟩; simp_all)] at hq; exact hq
  · refine x_ild2 (n := 9) dX12_set_8 rfl ?_
    refine x_i2l (n := 10) dX12_set_9 rfl ?_
    refine x_lconst (n := 11) (v := 0) dX12_set_10 rfl (by decide) ?_
    refine x_ldc2 (n := 14) dX12_set_11 rfl klX12_96 ?_
    refine x_cS3 (n := 17) (d' := 0) zcX12_isIn mlX12_89 dX12_set_14 rfl (Nat.le_of_ble_eq_true rfl) (Nat.le_of_ble_eq_true rfl) ?_
    refine c_X12_isIn (zin y 0 2) (by unfold zin; rw [zI64]; rfl) ?_
    refine x_some ?_
    refine x_zif_eq (n := 20) (tgt := 43) dX12_set_17 rfl (by decide) (fun c_17 => ?_) (fun c_17 => ?_)
    · refine x_ldc (n := 45) dX12_set_43 rfl kiX12_100 ?_
      refine r_iret dX12_set_45 rfl ?_
      unfold f_set at hq; rw [if_neg (by rintro ⟨h1, h2, h3⟩; simp_all)] at hq; exact hq
    · refine x_ild3 (n := 21) dX12_set_20 rfl ?_
      refine x_i2l (n := 22) dX12_set_21 rfl ?_
      refine x_lconst (n := 23) (v := 0) dX12_set_22 rfl (by decide) ?_
      refine x_ild2 (n := 24) dX12_set_23 rfl ?_
      refine x_ic2 (n := 25) dX12_set_24 rfl ?_
      refine x_icmp_ne (n := 28) (tgt := 34) dX12_set_25 rfl (by decide) (fun c_25 => ?_) (fun c_25 => ?_)
      · refine x_ldc2 (n := 37) dX12_set_34 rfl klX12_108 ?_
        refine x_cS3 (n := 40) (d' := 0) zcX12_isIn mlX12_89 dX12_set_37 rfl (Nat.le_of_ble_eq_true rfl) (Nat.le_of_ble_eq_true rfl) ?_
        refine c_X12_isIn (zin v 0 (if y = nI 2 then 3 else 99)) (by unfold zin; (first | rw [if_neg c_25, zI64] | rw [if_pos c_25, zI64]); rfl) ?_
        refine x_some ?_
        refine x_zif_ne (n := 43) (tgt := 46) dX12_set_40 rfl (by decide) (fun c_40 => ?_) (fun c_40 => ?_)
        · unfold f_set at hq
          rw [if_pos ⟨c_5, c_17, c_40⟩] at hq
          obtain ⟨c, hc, rfl⟩ := z_chain c_5
          obtain ⟨k, hk, hk2, rfl⟩ := z_num 3 c_17 (by omega)
          rw [ix_nI (by omega), ix_nI (by omega)] at hq
          refine x_ald0 (n := 47) dX12_set_46 rfl ?_
          refine x_ald0 (n := 48) dX12_set_47 rfl ?_
          refine x_ild1 (n := 49) dX12_set_48 rfl ?_
          refine x_cV1 (n := 52) (d' := 0) zcX12_chainAt mlX12_84 dX12_set_49 rfl (rK hZ) (Nat.le_of_ble_eq_true rfl) (Nat.le_of_ble_eq_true rfl) ?_
          refine c_X12_chainAt ?_
          refine x_some ?_
          refine x_ild2 (n := 53) dX12_set_52 rfl ?_
          refine x_iaddN (n := 54) dX12_set_53 rfl ?_
          refine x_ild3 (n := 55) dX12_set_54 rfl ?_
          refine x_cV2 (n := 58) (d' := 0) zcX12_becomes mlX12_110 dX12_set_55 rfl (rK hZ) (Nat.le_of_ble_eq_true rfl) (Nat.le_of_ble_eq_true rfl) ?_
          refine c_X12_becomes hZ (by omega) ?_
          refine x_some ?_
          refine r_iret dX12_set_58 rfl ?_
          exact hq
        · refine x_ldc (n := 45) dX12_set_43 rfl kiX12_100 ?_
          refine r_iret dX12_set_45 rfl ?_
          unfold f_set at hq; rw [if_neg (by rintro ⟨h1, h2, h3⟩; simp_all)] at hq; exact hq
      · refine x_ldc2 (n := 31) dX12_set_28 rfl klX12_106 ?_
        refine x_goto (n := 37) dX12_set_31 (by decide) ?_
        refine x_cS3 (n := 40) (d' := 0) zcX12_isIn mlX12_89 dX12_set_37 rfl (Nat.le_of_ble_eq_true rfl) (Nat.le_of_ble_eq_true rfl) ?_
        refine c_X12_isIn (zin v 0 (if y = nI 2 then 3 else 99)) (by unfold zin; (first | rw [if_neg c_25, zI64] | rw [if_pos c_25, zI64]); rfl) ?_
        refine x_some ?_
        refine x_zif_ne (n := 43) (tgt := 46) dX12_set_40 rfl (by decide) (fun c_40 => ?_) (fun c_40 => ?_)
        · unfold f_set at hq
          rw [if_pos ⟨c_5, c_17, c_40⟩] at hq
          obtain ⟨c, hc, rfl⟩ := z_chain c_5
          obtain ⟨k, hk, hk2, rfl⟩ := z_num 3 c_17 (by omega)
          rw [ix_nI (by omega), ix_nI (by omega)] at hq
          refine x_ald0 (n := 47) dX12_set_46 rfl ?_
          refine x_ald0 (n := 48) dX12_set_47 rfl ?_
          refine x_ild1 (n := 49) dX12_set_48 rfl ?_
          refine x_cV1 (n := 52) (d' := 0) zcX12_chainAt mlX12_84 dX12_set_49 rfl (rK hZ) (Nat.le_of_ble_eq_true rfl) (Nat.le_of_ble_eq_true rfl) ?_
          refine c_X12_chainAt ?_
          refine x_some ?_
          refine x_ild2 (n := 53) dX12_set_52 rfl ?_
          refine x_iaddN (n := 54) dX12_set_53 rfl ?_
          refine x_ild3 (n := 55) dX12_set_54 rfl ?_
          refine x_cV2 (n := 58) (d' := 0) zcX12_becomes mlX12_110 dX12_set_55 rfl (rK hZ) (Nat.le_of_ble_eq_true rfl) (Nat.le_of_ble_eq_true rfl) ?_
          refine c_X12_becomes hZ (by omega) ?_
          refine x_some ?_
          refine r_iret dX12_set_58 rfl ?_
          exact hq
        · refine x_ldc (n := 45) dX12_set_43 rfl kiX12_100 ?_
          refine r_iret dX12_set_45 rfl ?_
          unfold f_set at hq; rw [if_neg (by rintro ⟨h1, h2, h3⟩; simp_all)] at hq; exact hq
theorem c_X12_bore (hZ : ShR Z) {x : Int32} (hn : g 0 = nI (vN g 0)) (h2 : vN g 0 ≤ 24) (hq : Q (some (.int (f_bore g x).1)) Z (va_up I q_s (f_bore g x).2)) : zM l G mX12_bore 2 0 0 [.ref qR, .int x] Z (va_up I q_s g) Q := by
  refine x_entry [some (.ref qR), some (.int x)] 0 rfl rfl (Nat.le_of_ble_eq_true rfl) ?_
  refine x_ald0 (n := 1) dX12_bore_0 rfl ?_
  refine x_ild1 (n := 2) dX12_bore_1 rfl ?_
  refine x_cV1 (n := 5) (d' := 1) zcX12_isChain mlX12_102 dX12_bore_2 rfl (rK hZ) (Nat.le_of_ble_eq_true rfl) (Nat.le_of_ble_eq_true rfl) ?_
  refine c_X12_isChain hZ hn (by omega) ?_
  refine x_some ?_
  refine x_zif_ne (n := 8) (tgt := 11) dX12_bore_5 rfl (by decide) (fun c_5 => ?_) (fun c_5 => ?_)
  · unfold f_bore at hq
    rw [if_pos c_5] at hq
    obtain ⟨c, hc, rfl⟩ := z_chain c_5
    rw [ix_nI (by omega)] at hq
    refine x_ald0 (n := 12) dX12_bore_11 rfl ?_
    refine x_getR (n := 15) flX12_7 rfl dX12_bore_12 rfl (rK hZ) (rP_s hZ) ?_
    refine x_ald0 (n := 16) dX12_bore_15 rfl ?_
    refine x_ild1 (n := 17) dX12_bore_16 rfl ?_
    refine x_cV1 (n := 20) (d' := 0) zcX12_chainAt mlX12_84 dX12_bore_17 rfl (rK hZ) (Nat.le_of_ble_eq_true rfl) (Nat.le_of_ble_eq_true rfl) ?_
    refine c_X12_chainAt ?_
    refine x_some ?_
    refine x_ic3 (n := 21) dX12_bore_20 rfl ?_
    refine x_iaddN (n := 22) dX12_bore_21 rfl ?_
    refine x_ald0 (n := 23) dX12_bore_22 rfl ?_
    refine x_getR (n := 26) flX12_7 rfl dX12_bore_23 rfl (rK hZ) (rP_s hZ) ?_
    refine x_ald0 (n := 27) dX12_bore_26 rfl ?_
    refine x_ild1 (n := 28) dX12_bore_27 rfl ?_
    refine x_cV1 (n := 31) (d' := 0) zcX12_chainAt mlX12_84 dX12_bore_28 rfl (rK hZ) (Nat.le_of_ble_eq_true rfl) (Nat.le_of_ble_eq_true rfl) ?_
    refine c_X12_chainAt ?_
    refine x_some ?_
    refine x_ic2 (n := 32) dX12_bore_31 rfl ?_
    refine x_iaddN (n := 33) dX12_bore_32 rfl ?_
    refine x_sld (n := 34) dX12_bore_33 rfl hZ (by omega) ?_
    refine x_sst (n := 35) dX12_bore_34 rfl hZ (by omega) ?_
    refine x_ald0 (n := 36) dX12_bore_35 rfl ?_
    refine x_getR (n := 39) flX12_7 rfl dX12_bore_36 rfl (rK hZ) (rP_s hZ) ?_
    refine x_ald0 (n := 40) dX12_bore_39 rfl ?_
    refine x_ild1 (n := 41) dX12_bore_40 rfl ?_
    refine x_cV1 (n := 44) (d' := 0) zcX12_chainAt mlX12_84 dX12_bore_41 rfl (rK hZ) (Nat.le_of_ble_eq_true rfl) (Nat.le_of_ble_eq_true rfl) ?_
    refine c_X12_chainAt ?_
    refine x_some ?_
    refine x_ic2 (n := 45) dX12_bore_44 rfl ?_
    refine x_iaddN (n := 46) dX12_bore_45 rfl ?_
    refine x_sld (n := 47) dX12_bore_46 rfl hZ (by omega) ?_
    refine r_iret dX12_bore_47 rfl ?_
    rw [show upd g (20 + 4 * c + 3) (g (20 + 4 * c + 2)) (20 + 4 * c + 2) = g (20 + 4 * c + 2) from if_neg (by omega)]; exact hq
  · refine x_ldc (n := 10) dX12_bore_8 rfl kiX12_100 ?_
    refine r_iret dX12_bore_10 rfl ?_
    unfold f_bore at hq; rw [if_neg (by rw [c_5]; decide)] at hq; exact hq
theorem l_X12_worksAt (hZ : ShR Z) {x kd : Int32} {n : Nat} (hn : g 1 = nI n) (h2 : n ≤ 24) (hq : Q (some (.int (nI (zct (g_at g x kd) n)))) Z (va_up I q_s g)) : ∀ m k, k ≤ n → n - k < m → zX l G mX12_worksAt 2 0 0 5 [some (.ref qR), some (.int x), some (.int kd), some (.int (nI (zct (g_at g x kd) k))), some (.int (nI k))] [] Z (va_up I q_s g) Q := by
  intro m
  induction m with
  | zero => intro k _ h; exact absurd h (by omega)
  | succ m ih =>
    intro k hk hm
    refine x_ild4 (n := 7) dX12_worksAt_5 rfl ?_
    refine x_ald0 (n := 8) dX12_worksAt_7 rfl ?_
    refine x_getR (n := 11) flX12_7 rfl dX12_worksAt_8 rfl (rK hZ) (rP_s hZ) ?_
    refine x_ic1 (n := 12) dX12_worksAt_11 rfl ?_
    refine x_sld (n := 13) dX12_worksAt_12 rfl hZ (by omega) ?_
    rw [hn]
    refine x_icmpN_ge (n := 16) (tgt := 61) dX12_worksAt_13 rfl (by decide) (by omega) (by omega) (fun c_13 => ?_) (fun c_13 => ?_)
    · refine x_ild3 (n := 62) dX12_worksAt_61 rfl ?_
      refine r_iret dX12_worksAt_62 rfl ?_
      rw [show k = n by omega]; exact hq
    · refine x_ild3 (n := 17) dX12_worksAt_16 rfl ?_
      refine x_ald0 (n := 18) dX12_worksAt_17 rfl ?_
      refine x_getR (n := 21) flX12_7 rfl dX12_worksAt_18 rfl (rK hZ) (rP_s hZ) ?_
      refine x_ald0 (n := 22) dX12_worksAt_21 rfl ?_
      refine x_ild4 (n := 24) dX12_worksAt_22 rfl ?_
      refine x_cV1 (n := 27) (d' := 0) zcX12_workAt mlX12_93 dX12_worksAt_24 rfl (rK hZ) (Nat.le_of_ble_eq_true rfl) (Nat.le_of_ble_eq_true rfl) ?_
      refine c_X12_workAt ?_
      refine x_some ?_
      refine x_ic1 (n := 28) dX12_worksAt_27 rfl ?_
      refine x_iaddN (n := 29) dX12_worksAt_28 rfl ?_
      refine x_sld (n := 30) dX12_worksAt_29 rfl hZ (by omega) ?_
      refine x_ild1 (n := 31) dX12_worksAt_30 rfl ?_
      refine x_icmp_ne (n := 34) (tgt := 52) dX12_worksAt_31 rfl (by decide) (fun c_31 => ?_) (fun c_31 => ?_)
      · refine x_ic0 (n := 53) dX12_worksAt_52 rfl ?_
        refine x_iaddN (n := 54) dX12_worksAt_53 rfl ?_
        refine x_ist3 (n := 55) dX12_worksAt_54 rfl (by decide) rfl ?_
        refine x_iincN4 (n := 58) (k := 1) dX12_worksAt_55 rfl (by decide) rfl ?_
        refine x_goto (n := 5) dX12_worksAt_58 (by decide) ?_
        first | (rw [zct_t (by unfold g_at; grind)]; exact ih (k + 1) (by omega) (by omega)) | (rw [zct_f (by unfold g_at; grind)]; exact ih (k + 1) (by omega) (by omega))
      · refine x_ild2 (n := 35) dX12_worksAt_34 rfl ?_
        refine x_if_lt (n := 38) (tgt := 48) dX12_worksAt_35 rfl (by decide) (fun c_35 => ?_) (fun c_35 => ?_)
        · refine x_ic1 (n := 49) dX12_worksAt_48 rfl ?_
          refine x_goto (n := 53) dX12_worksAt_49 (by decide) ?_
          refine x_iaddN (n := 54) dX12_worksAt_53 rfl ?_
          refine x_ist3 (n := 55) dX12_worksAt_54 rfl (by decide) rfl ?_
          refine x_iincN4 (n := 58) (k := 1) dX12_worksAt_55 rfl (by decide) rfl ?_
          refine x_goto (n := 5) dX12_worksAt_58 (by decide) ?_
          first | (rw [zct_t (by unfold g_at; grind)]; exact ih (k + 1) (by omega) (by omega)) | (rw [zct_f (by unfold g_at; grind)]; exact ih (k + 1) (by omega) (by omega))
        · refine x_ald0 (n := 39) dX12_worksAt_38 rfl ?_
          refine x_ild4 (n := 41) dX12_worksAt_39 rfl ?_
          refine x_cV1 (n := 44) (d' := 1) zcX12_kindOf mlX12_114 dX12_worksAt_41 rfl (rK hZ) (Nat.le_of_ble_eq_true rfl) (Nat.le_of_ble_eq_true rfl) ?_
          refine c_X12_kindOf hZ (by omega) ?_
          refine x_some ?_
          refine x_ild2 (n := 45) dX12_worksAt_44 rfl ?_
          refine x_icmp_ne (n := 48) (tgt := 52) dX12_worksAt_45 rfl (by decide) (fun c_45 => ?_) (fun c_45 => ?_)
          · refine x_ic0 (n := 53) dX12_worksAt_52 rfl ?_
            refine x_iaddN (n := 54) dX12_worksAt_53 rfl ?_
            refine x_ist3 (n := 55) dX12_worksAt_54 rfl (by decide) rfl ?_
            refine x_iincN4 (n := 58) (k := 1) dX12_worksAt_55 rfl (by decide) rfl ?_
            refine x_goto (n := 5) dX12_worksAt_58 (by decide) ?_
            first | (rw [zct_t (by unfold g_at; grind)]; exact ih (k + 1) (by omega) (by omega)) | (rw [zct_f (by unfold g_at; grind)]; exact ih (k + 1) (by omega) (by omega))
          · refine x_ic1 (n := 49) dX12_worksAt_48 rfl ?_
            refine x_goto (n := 53) dX12_worksAt_49 (by decide) ?_
            refine x_iaddN (n := 54) dX12_worksAt_53 rfl ?_
            refine x_ist3 (n := 55) dX12_worksAt_54 rfl (by decide) rfl ?_
            refine x_iincN4 (n := 58) (k := 1) dX12_worksAt_55 rfl (by decide) rfl ?_
            refine x_goto (n := 5) dX12_worksAt_58 (by decide) ?_
            first | (rw [zct_t (by unfold g_at; grind)]; exact ih (k + 1) (by omega) (by omega)) | (rw [zct_f (by unfold g_at; grind)]; exact ih (k + 1) (by omega) (by omega))
theorem c_X12_worksAt (hZ : ShR Z) {x kd : Int32} {n : Nat} (hn : g 1 = nI n) (h2 : n ≤ 24) (hq : Q (some (.int (nI (zct (g_at g x kd) n)))) Z (va_up I q_s g)) : zM l G mX12_worksAt 2 0 0 [.ref qR, .int x, .int kd] Z (va_up I q_s g) Q := by
  refine x_entry [some (.ref qR), some (.int x), some (.int kd), none, none] 2 rfl rfl (Nat.le_of_ble_eq_true rfl) ?_
  refine x_ic0 (n := 1) dX12_worksAt_0 rfl ?_
  refine x_ist3 (n := 2) dX12_worksAt_1 rfl (by decide) rfl ?_
  refine x_ic0 (n := 3) dX12_worksAt_2 rfl ?_
  refine x_ist4 (n := 5) dX12_worksAt_3 rfl (by decide) rfl ?_
  exact l_X12_worksAt hZ hn h2 hq (n + 1) 0 (by omega) (by omega)
theorem c_X12_at (hZ : ShR Z) {x y : Int32} (hn : g 0 = nI (vN g 0)) (h2 : vN g 0 ≤ 24) (hw : g 1 = nI (vN g 1)) (hw2 : vN g 1 ≤ 24) (hq : Q (some (.int (f_at g x y))) Z (va_up I q_s g)) : zM l G mX12_at 3 0 0 [.ref qR, .int x, .int y] Z (va_up I q_s g) Q := by
  refine x_entry [some (.ref qR), some (.int x), some (.int y)] 0 rfl rfl (Nat.le_of_ble_eq_true rfl) ?_
  refine x_ald0 (n := 1) dX12_at_0 rfl ?_
  refine x_ild1 (n := 2) dX12_at_1 rfl ?_
  refine x_cV1 (n := 5) (d' := 1) zcX12_isChain mlX12_102 dX12_at_2 rfl (rK hZ) (Nat.le_of_ble_eq_true rfl) (Nat.le_of_ble_eq_true rfl) ?_
  refine c_X12_isChain hZ hn (by omega) ?_
  refine x_some ?_
  refine x_zif_ne (n := 8) (tgt := 11) dX12_at_5 rfl (by decide) (fun c_5 => ?_) (fun c_5 => ?_)
  · unfold f_at at hq
    rw [if_pos c_5] at hq
    obtain ⟨c, hc, rfl⟩ := z_chain c_5
    rw [ix_nI (by omega)] at hq
    refine x_ild2 (n := 12) dX12_at_11 rfl ?_
    rcases zsw0_5 (y) with hsw | hsw | hsw | hsw | hsw | hsw | hsw
    · refine x_tswO (n := 126) dX12_at_12 hsw (by decide) ?_
      refine x_ldc (n := 128) dX12_at_126 rfl kiX12_100 ?_
      refine r_iret dX12_at_128 rfl ?_
      rw [if_neg, if_neg, if_neg, if_neg, if_neg, if_neg] at hq
      · exact hq
      all_goals (rintro rfl; revert hsw; decide)
    · refine x_top hsw ?_
      refine x_tswI (n := 52) (off := 40) dX12_at_12 (by decide) (by decide) (by decide +kernel) (by decide) ?_
      subst hsw
      refine x_ald0 (n := 53) dX12_at_52 rfl ?_
      refine x_getR (n := 56) flX12_7 rfl dX12_at_53 rfl (rK hZ) (rP_s hZ) ?_
      refine x_ald0 (n := 57) dX12_at_56 rfl ?_
      refine x_ild1 (n := 58) dX12_at_57 rfl ?_
      refine x_cV1 (n := 61) (d' := 0) zcX12_chainAt mlX12_84 dX12_at_58 rfl (rK hZ) (Nat.le_of_ble_eq_true rfl) (Nat.le_of_ble_eq_true rfl) ?_
      refine c_X12_chainAt ?_
      refine x_some ?_
      refine x_ild2 (n := 62) dX12_at_61 rfl ?_
      refine x_iaddN (n := 63) dX12_at_62 rfl ?_
      refine x_sld (n := 64) dX12_at_63 rfl hZ (by omega) ?_
      refine r_iret dX12_at_64 rfl ?_
      exact hq
    · refine x_top hsw ?_
      refine x_tswI (n := 52) (off := 40) dX12_at_12 (by decide) (by decide) (by decide +kernel) (by decide) ?_
      subst hsw
      refine x_ald0 (n := 53) dX12_at_52 rfl ?_
      refine x_getR (n := 56) flX12_7 rfl dX12_at_53 rfl (rK hZ) (rP_s hZ) ?_
      refine x_ald0 (n := 57) dX12_at_56 rfl ?_
      refine x_ild1 (n := 58) dX12_at_57 rfl ?_
      refine x_cV1 (n := 61) (d' := 0) zcX12_chainAt mlX12_84 dX12_at_58 rfl (rK hZ) (Nat.le_of_ble_eq_true rfl) (Nat.le_of_ble_eq_true rfl) ?_
      refine c_X12_chainAt ?_
      refine x_some ?_
      refine x_ild2 (n := 62) dX12_at_61 rfl ?_
      refine x_iaddN (n := 63) dX12_at_62 rfl ?_
      refine x_sld (n := 64) dX12_at_63 rfl hZ (by omega) ?_
      refine r_iret dX12_at_64 rfl ?_
      exact hq
    · refine x_top hsw ?_
      refine x_tswI (n := 65) (off := 53) dX12_at_12 (by decide) (by decide) (by decide +kernel) (by decide) ?_
      subst hsw
      refine x_ald0 (n := 66) dX12_at_65 rfl ?_
      refine x_getR (n := 69) flX12_7 rfl dX12_at_66 rfl (rK hZ) (rP_s hZ) ?_
      refine x_ald0 (n := 70) dX12_at_69 rfl ?_
      refine x_ild1 (n := 71) dX12_at_70 rfl ?_
      refine x_cV1 (n := 74) (d' := 0) zcX12_chainAt mlX12_84 dX12_at_71 rfl (rK hZ) (Nat.le_of_ble_eq_true rfl) (Nat.le_of_ble_eq_true rfl) ?_
      refine c_X12_chainAt ?_
      refine x_some ?_
      refine x_ic3 (n := 75) dX12_at_74 rfl ?_
      refine x_iaddN (n := 76) dX12_at_75 rfl ?_
      refine x_sld (n := 77) dX12_at_76 rfl hZ (by omega) ?_
      refine x_if_ge (n := 80) (tgt := 85) dX12_at_77 rfl (by decide) (fun c_77 => ?_) (fun c_77 => ?_)
      · refine x_ald0 (n := 86) dX12_at_85 rfl ?_
        refine x_getR (n := 89) flX12_7 rfl dX12_at_86 rfl (rK hZ) (rP_s hZ) ?_
        refine x_ald0 (n := 90) dX12_at_89 rfl ?_
        refine x_ild1 (n := 91) dX12_at_90 rfl ?_
        refine x_cV1 (n := 94) (d' := 0) zcX12_chainAt mlX12_84 dX12_at_91 rfl (rK hZ) (Nat.le_of_ble_eq_true rfl) (Nat.le_of_ble_eq_true rfl) ?_
        refine c_X12_chainAt ?_
        refine x_some ?_
        refine x_ic2 (n := 95) dX12_at_94 rfl ?_
        refine x_iaddN (n := 96) dX12_at_95 rfl ?_
        refine x_sld (n := 97) dX12_at_96 rfl hZ (by omega) ?_
        refine r_iret dX12_at_97 rfl ?_
        rw [zle, Int32.toInt_zero] at c_77
        first | (rw [if_neg (by decide), if_neg (by decide), if_pos rfl, if_neg (by omega)] at hq; exact hq) | (rw [if_neg (by decide), if_neg (by decide), if_pos rfl, if_pos (by omega)] at hq; exact hq)
      · refine x_ldc (n := 82) dX12_at_80 rfl kiX12_88 ?_
        refine x_goto (n := 97) dX12_at_82 (by decide) ?_
        refine r_iret dX12_at_97 rfl ?_
        rw [zle, Int32.toInt_zero] at c_77
        first | (rw [if_neg (by decide), if_neg (by decide), if_pos rfl, if_neg (by omega)] at hq; exact hq) | (rw [if_neg (by decide), if_neg (by decide), if_pos rfl, if_pos (by omega)] at hq; exact hq)
    · refine x_top hsw ?_
      refine x_tswI (n := 98) (off := 86) dX12_at_12 (by decide) (by decide) (by decide +kernel) (by decide) ?_
      refine x_ald0 (n := 99) dX12_at_98 rfl ?_
      refine x_ild1 (n := 100) dX12_at_99 rfl ?_
      refine x_cV1 (n := 103) (d' := 1) zcX12_depth mlX12_117 dX12_at_100 rfl (rK hZ) (Nat.le_of_ble_eq_true rfl) (Nat.le_of_ble_eq_true rfl) ?_
      refine c_X12_depth hZ (by omega) ?_
      refine x_some ?_
      refine r_iret dX12_at_103 rfl ?_
      subst hsw; exact hq
    · refine x_top hsw ?_
      refine x_tswI (n := 104) (off := 92) dX12_at_12 (by decide) (by decide) (by decide +kernel) (by decide) ?_
      refine x_ald0 (n := 105) dX12_at_104 rfl ?_
      refine x_ild1 (n := 106) dX12_at_105 rfl ?_
      refine x_icm1 (n := 107) dX12_at_106 rfl ?_
      refine x_cV2 (n := 110) (d' := 2) zcX12_worksAt mlX12_120 dX12_at_107 rfl (rK hZ) (Nat.le_of_ble_eq_true rfl) (Nat.le_of_ble_eq_true rfl) ?_
      refine c_X12_worksAt hZ hw hw2 ?_
      refine x_some ?_
      refine r_iret dX12_at_110 rfl ?_
      subst hsw; exact hq
    · refine x_top hsw ?_
      refine x_tswI (n := 111) (off := 99) dX12_at_12 (by decide) (by decide) (by decide +kernel) (by decide) ?_
      refine x_ald0 (n := 112) dX12_at_111 rfl ?_
      refine x_ild1 (n := 113) dX12_at_112 rfl ?_
      refine x_ic5 (n := 114) dX12_at_113 rfl ?_
      refine x_cV2 (n := 117) (d' := 2) zcX12_worksAt mlX12_120 dX12_at_114 rfl (rK hZ) (Nat.le_of_ble_eq_true rfl) (Nat.le_of_ble_eq_true rfl) ?_
      refine c_X12_worksAt hZ hw hw2 ?_
      refine x_some ?_
      refine x_if_le (n := 120) (tgt := 124) dX12_at_117 rfl (by decide) (fun c_117 => ?_) (fun c_117 => ?_)
      · refine x_ic0 (n := 125) dX12_at_124 rfl ?_
        refine r_iret dX12_at_125 rfl ?_
        subst hsw
        have hz := zct_le (g_at g (nI c) (nI 5)) (vN g 1)
        rw [zle, nI_toInt (by omega), Int32.toInt_zero] at c_117
        rw [if_neg (by decide), if_neg (by decide), if_neg (by decide), if_neg (by decide), if_neg (by decide), if_pos rfl] at hq
        first | (rw [if_pos (by omega)] at hq; exact hq) | (rw [if_neg (by omega)] at hq; exact hq)
      · refine x_ic1 (n := 121) dX12_at_120 rfl ?_
        refine x_goto (n := 125) dX12_at_121 (by decide) ?_
        refine r_iret dX12_at_125 rfl ?_
        subst hsw
        have hz := zct_le (g_at g (nI c) (nI 5)) (vN g 1)
        rw [zle, nI_toInt (by omega), Int32.toInt_zero] at c_117
        rw [if_neg (by decide), if_neg (by decide), if_neg (by decide), if_neg (by decide), if_neg (by decide), if_pos rfl] at hq
        first | (rw [if_pos (by omega)] at hq; exact hq) | (rw [if_neg (by omega)] at hq; exact hq)
  · refine x_ldc (n := 10) dX12_at_8 rfl kiX12_100 ?_
    refine r_iret dX12_at_10 rfl ?_
    unfold f_at at hq; rw [if_neg (by rw [c_5]; decide)] at hq; exact hq
theorem c_X12_rule (hZ : ShR Z) (hC : RfC I) {x v : Int32} (hq : Q (some (.int (f_rule g x v).1)) Z (va_up I q_s (f_rule g x v).2)) : zM l G mX12_rule 1 0 0 [.ref qR, .int x, .int v] Z (va_up I q_s g) Q := by
  refine x_entry [some (.ref qR), some (.int x), some (.int v)] 0 rfl rfl (Nat.le_of_ble_eq_true rfl) ?_
  refine x_ild1 (n := 1) dX12_rule_0 rfl ?_
  refine x_i2l (n := 2) dX12_rule_1 rfl ?_
  refine x_lconst (n := 3) (v := 0) dX12_rule_2 rfl (by decide) ?_
  refine x_ldc2 (n := 6) dX12_rule_3 rfl klX12_123 ?_
  refine x_cS3 (n := 9) (d' := 0) zcX12_isIn mlX12_89 dX12_rule_6 rfl (Nat.le_of_ble_eq_true rfl) (Nat.le_of_ble_eq_true rfl) ?_
  refine c_X12_isIn (zin x 0 5) (by unfold zin; rw [zI64]; rfl) ?_
  refine x_some ?_
  refine x_zif_eq (n := 12) (tgt := 40) dX12_rule_9 rfl (by decide) (fun c_9 => ?_) (fun c_9 => ?_)
  · refine x_ldc (n := 42) dX12_rule_40 rfl kiX12_100 ?_
    refine r_iret dX12_rule_42 rfl ?_
    unfold f_rule at hq
    first | (rw [ix_nI (by omega), if_pos ⟨c_9, c_25⟩] at hq; exact hq) | (rw [ix_nI (by omega), if_neg (by grind)] at hq; exact hq) | (rw [if_neg (by grind)] at hq; exact hq)
  · obtain ⟨k, hk, hk2, rfl⟩ := z_num 6 c_9 (by omega)
    refine x_ild2 (n := 13) dX12_rule_12 rfl ?_
    refine x_i2l (n := 14) dX12_rule_13 rfl ?_
    refine x_lconst (n := 15) (v := 0) dX12_rule_14 rfl (by decide) ?_
    refine x_ald0 (n := 16) dX12_rule_15 rfl ?_
    refine x_getR (n := 19) flX12_34 rfl dX12_rule_16 rfl (rK hZ) (rP_mostOf hZ) ?_
    refine x_ild1 (n := 20) dX12_rule_19 rfl ?_
    refine x_old (n := 21) dX12_rule_20 rfl (rA_mostOf hZ) (by decide) (Nat.le_of_ble_eq_true rfl) (by omega) ?_
    rw [hC.2.2 k (by omega)]
    refine x_i2l (n := 22) dX12_rule_21 rfl ?_
    refine x_cS3 (n := 25) (d' := 0) zcX12_isIn mlX12_89 dX12_rule_22 rfl (Nat.le_of_ble_eq_true rfl) (Nat.le_of_ble_eq_true rfl) ?_
    refine c_X12_isIn (zin v 0 (mostOf k)) (by unfold zin; rw [zI64, zI64, mostOf_eq (by omega)]; rfl) ?_
    refine x_some ?_
    refine x_zif_eq (n := 28) (tgt := 40) dX12_rule_25 rfl (by decide) (fun c_25 => ?_) (fun c_25 => ?_)
    · refine x_ldc (n := 42) dX12_rule_40 rfl kiX12_100 ?_
      refine r_iret dX12_rule_42 rfl ?_
      unfold f_rule at hq
      first | (rw [ix_nI (by omega), if_pos ⟨c_9, c_25⟩] at hq; exact hq) | (rw [ix_nI (by omega), if_neg (by grind)] at hq; exact hq) | (rw [if_neg (by grind)] at hq; exact hq)
    · refine x_ald0 (n := 29) dX12_rule_28 rfl ?_
      refine x_bipush (n := 31) (v := nI 11) dX12_rule_29 rfl (by decide) ?_
      refine x_ild1 (n := 32) dX12_rule_31 rfl ?_
      refine x_iaddN (n := 33) dX12_rule_32 rfl ?_
      refine x_ild2 (n := 34) dX12_rule_33 rfl ?_
      refine x_cV2 (n := 37) (d' := 0) zcX12_becomes mlX12_110 dX12_rule_34 rfl (rK hZ) (Nat.le_of_ble_eq_true rfl) (Nat.le_of_ble_eq_true rfl) ?_
      refine c_X12_becomes hZ (by omega) ?_
      refine x_some ?_
      refine x_goto (n := 42) dX12_rule_37 (by decide) ?_
      refine r_iret dX12_rule_42 rfl ?_
      unfold f_rule at hq
      first | (rw [ix_nI (by omega), if_pos ⟨c_9, c_25⟩] at hq; exact hq) | (rw [ix_nI (by omega), if_neg (by grind)] at hq; exact hq) | (rw [if_neg (by grind)] at hq; exact hq)
theorem l_X12_steep (hZ : ShR Z) {n : Nat} (hn : g 0 = nI n) (h2 : n ≤ 24) (h1 : 1 ≤ n) (hq : Q (some (.int (nI (zct (g_steep g) (n - 1))))) Z (va_up I q_s g)) : ∀ m k, k + 1 ≤ n → n - k < m → zX l G mX12_steep 1 0 0 4 [some (.ref qR), some (.int (nI (zct (g_steep g) k))), some (.int (nI (k + 1)))] [] Z (va_up I q_s g) Q := by
  intro m
  induction m with
  | zero => intro k _ h; exact absurd h (by omega)
  | succ m ih =>
    intro k hk hm
    refine x_ild2 (n := 5) dX12_steep_4 rfl ?_
    refine x_ald0 (n := 6) dX12_steep_5 rfl ?_
    refine x_getR (n := 9) flX12_7 rfl dX12_steep_6 rfl (rK hZ) (rP_s hZ) ?_
    refine x_ic0 (n := 10) dX12_steep_9 rfl ?_
    refine x_sld (n := 11) dX12_steep_10 rfl hZ (by omega) ?_
    rw [hn]
    refine x_icmpN_ge (n := 14) (tgt := 68) dX12_steep_11 rfl (by decide) (by omega) (by omega) (fun c_11 => ?_) (fun c_11 => ?_)
    · refine x_ild1 (n := 69) dX12_steep_68 rfl ?_
      refine r_iret dX12_steep_69 rfl ?_
      rw [show k = n - 1 by omega]; exact hq
    · refine x_ild1 (n := 15) dX12_steep_14 rfl ?_
      refine x_ald0 (n := 16) dX12_steep_15 rfl ?_
      refine x_getR (n := 19) flX12_7 rfl dX12_steep_16 rfl (rK hZ) (rP_s hZ) ?_
      refine x_ald0 (n := 20) dX12_steep_19 rfl ?_
      refine x_ild2 (n := 21) dX12_steep_20 rfl ?_
      refine x_cV1 (n := 24) (d' := 0) zcX12_chainAt mlX12_84 dX12_steep_21 rfl (rK hZ) (Nat.le_of_ble_eq_true rfl) (Nat.le_of_ble_eq_true rfl) ?_
      refine c_X12_chainAt ?_
      refine x_some ?_
      refine x_ic1 (n := 25) dX12_steep_24 rfl ?_
      refine x_iaddN (n := 26) dX12_steep_25 rfl ?_
      refine x_sld (n := 27) dX12_steep_26 rfl hZ (by omega) ?_
      refine x_ald0 (n := 28) dX12_steep_27 rfl ?_
      refine x_getR (n := 31) flX12_7 rfl dX12_steep_28 rfl (rK hZ) (rP_s hZ) ?_
      refine x_ald0 (n := 32) dX12_steep_31 rfl ?_
      refine x_ild2 (n := 33) dX12_steep_32 rfl ?_
      refine x_ic1 (n := 34) dX12_steep_33 rfl ?_
      refine x_isubN (n := 35) dX12_steep_34 rfl (by omega) ?_
      rw [Nat.add_sub_cancel]
      refine x_cV1 (n := 38) (d' := 0) zcX12_chainAt mlX12_84 dX12_steep_35 rfl (rK hZ) (Nat.le_of_ble_eq_true rfl) (Nat.le_of_ble_eq_true rfl) ?_
      refine c_X12_chainAt ?_
      refine x_some ?_
      refine x_ic1 (n := 39) dX12_steep_38 rfl ?_
      refine x_iaddN (n := 40) dX12_steep_39 rfl ?_
      refine x_sld (n := 41) dX12_steep_40 rfl hZ (by omega) ?_
      refine x_isub (n := 42) dX12_steep_41 rfl ?_
      refine x_cS1 (n := 45) (d' := 0) zcX12_size mlX12_125 dX12_steep_42 rfl (Nat.le_of_ble_eq_true rfl) (Nat.le_of_ble_eq_true rfl) ?_
      refine c_X12_size ?_
      refine x_some ?_
      refine x_ald0 (n := 46) dX12_steep_45 rfl ?_
      refine x_getR (n := 49) flX12_7 rfl dX12_steep_46 rfl (rK hZ) (rP_s hZ) ?_
      refine x_bipush (n := 51) (v := nI 11) dX12_steep_49 rfl (by decide) ?_
      refine x_sld (n := 52) dX12_steep_51 rfl hZ (by omega) ?_
      refine x_icmp_le (n := 55) (tgt := 59) dX12_steep_52 rfl (by decide) (fun c_52 => ?_) (fun c_52 => ?_)
      · refine x_ic0 (n := 60) dX12_steep_59 rfl ?_
        refine x_iaddN (n := 61) dX12_steep_60 rfl ?_
        refine x_ist1 (n := 62) dX12_steep_61 rfl (by decide) rfl ?_
        refine x_iincN2 (n := 65) (k := 1) dX12_steep_62 rfl (by decide) rfl ?_
        refine x_goto (n := 4) dX12_steep_65 (by decide) ?_
        have e1 : 20 + 4 * (k + 1) + 1 = 25 + 4 * k := by omega
        have e2 : 20 + 4 * k + 1 = 21 + 4 * k := by omega
        rw [e1, e2, zle] at c_52
        first | (rw [zct_t (by unfold g_steep; refine decide_eq_true ?_; split at c_52 <;> rename_i hh <;> simp only [hh, if_true, if_false] <;> omega)]; exact ih (k + 1) (by omega) (by omega)) | (rw [zct_f (by unfold g_steep; refine decide_eq_false ?_; split at c_52 <;> rename_i hh <;> simp only [hh, if_true, if_false] <;> omega)]; exact ih (k + 1) (by omega) (by omega))
      · refine x_ic1 (n := 56) dX12_steep_55 rfl ?_
        refine x_goto (n := 60) dX12_steep_56 (by decide) ?_
        refine x_iaddN (n := 61) dX12_steep_60 rfl ?_
        refine x_ist1 (n := 62) dX12_steep_61 rfl (by decide) rfl ?_
        refine x_iincN2 (n := 65) (k := 1) dX12_steep_62 rfl (by decide) rfl ?_
        refine x_goto (n := 4) dX12_steep_65 (by decide) ?_
        have e1 : 20 + 4 * (k + 1) + 1 = 25 + 4 * k := by omega
        have e2 : 20 + 4 * k + 1 = 21 + 4 * k := by omega
        rw [e1, e2, zle] at c_52
        first | (rw [zct_t (by unfold g_steep; refine decide_eq_true ?_; split at c_52 <;> rename_i hh <;> simp only [hh, if_true, if_false] <;> omega)]; exact ih (k + 1) (by omega) (by omega)) | (rw [zct_f (by unfold g_steep; refine decide_eq_false ?_; split at c_52 <;> rename_i hh <;> simp only [hh, if_true, if_false] <;> omega)]; exact ih (k + 1) (by omega) (by omega))
theorem c_X12_steep (hZ : ShR Z) (hn : g 0 = nI (vN g 0)) (h2 : vN g 0 ≤ 24) (h1 : 1 ≤ vN g 0) (hq : Q (some (.int (f_steep g))) Z (va_up I q_s g)) : zM l G mX12_steep 1 0 0 [.ref qR] Z (va_up I q_s g) Q := by
  refine x_entry [some (.ref qR), none, none] 2 rfl rfl (Nat.le_of_ble_eq_true rfl) ?_
  refine x_ic0 (n := 1) dX12_steep_0 rfl ?_
  refine x_ist1 (n := 2) dX12_steep_1 rfl (by decide) rfl ?_
  refine x_ic1 (n := 3) dX12_steep_2 rfl ?_
  refine x_ist2 (n := 4) dX12_steep_3 rfl (by decide) rfl ?_
  exact l_X12_steep hZ hn h2 h1 hq (vN g 0 + 1) 0 (by omega) (by omega)
end
