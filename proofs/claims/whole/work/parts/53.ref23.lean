section
variable {l : Launch} {G : zG} {Z : zS} {I : zI} {g : Nat → Int32} {Q : Option Value → zS → zI → Prop}
def offL (I I' : zI) : Prop := ∀ p, p ≠ q_onward → p ≠ q_levels → I' p = I p
/-- chains from r on have their costs -/
def onOK (g : Nat → Int32) (f : Nat → Int32) (r : Nat) : Prop := ∀ c k, r ≤ c → c < vN g 0 → k < 100 → f (100 * c + k) = nI (onw g (vN g 0 - 1 - c) k)
theorem onw_last {r k : Nat} (h : r = vN g 0 - 1) : onw g (vN g 0 - 1 - r) k = cst g r k := by
  rw [show vN g 0 - 1 - r = 0 by omega, h]; rfl
theorem onw_step {r k : Nat} (h : r + 1 < vN g 0) : onw g (vN g 0 - 1 - r) k = cst g r k + onw g (vN g 0 - 1 - (r + 1)) (chp (onw g (vN g 0 - 1 - (r + 1))) k (vN g 11)) := by
  have e : vN g 0 - 1 - r = vN g 0 - 1 - (r + 1) + 1 := by omega
  have e2 : vN g 0 - 1 - (vN g 0 - 1 - (r + 1) + 1) = r := by omega
  rw [e]
  show cst g (vN g 0 - 1 - (vN g 0 - 1 - (r + 1) + 1)) k + _ = _
  rw [e2]
theorem l1_X12_findLevels (hZ : ShR Z) (hB : InvB g) {r : Nat} (hr : r < vN g 0)
    (hx : ∀ I' : zI, offL I I' → onOK g (I' q_onward) r → zX l G mX12_findLevels 2 0 0 83 [some (.ref qR), some (.int (nI (vN g 0 - 1))), some (.int (nI r)), none] [] Z (va_up I' q_s g) Q) :
    ∀ m k (I' : zI), offL I I' → onOK g (I' q_onward) (r + 1) → (∀ j, j < k → I' q_onward (100 * r + j) = nI (onw g (vN g 0 - 1 - r) j)) → k ≤ 100 → 100 - k < m → zX l G mX12_findLevels 2 0 0 17 [some (.ref qR), some (.int (nI (vN g 0 - 1))), some (.int (nI r)), some (.int (nI k))] [] Z (va_up I' q_s g) Q := by
  have h0 := iv0 hB
  have h11 := ivR0 hB
  intro m
  induction m with
  | zero => intro k I' _ _ _ _ h; exact absurd h (by omega)
  | succ m ih =>
    intro k I' hI ho hk hk2 hm
    have nx : ∀ v : Int32, v = nI (onw g (vN g 0 - 1 - r) k) → k < 100 → zX l G mX12_findLevels 2 0 0 17 [some (.ref qR), some (.int (nI (vN g 0 - 1))), some (.int (nI r)), some (.int (nI (k + 1)))] [] Z (va_up (va_up I' q_onward (upd (I' q_onward) (100 * r + k) v)) q_s g) Q := by
      intro v hv hk3
      refine ih (k + 1) _ (fun p h1 h2 => by rw [va_up_off h1]; exact hI p h1 h2) (fun c j h1 h2 h3 => ?_) (fun j hj => ?_) (by omega) (by omega)
      · rw [va_up_same, upd_off (by omega)]; exact ho c j h1 h2 h3
      · rw [va_up_same]
        by_cases e : j = k
        · subst e; rw [upd_same]; exact hv
        · rw [upd_off (by omega)]; exact hk j (by omega)
    refine x_ild3 (n := 18) dX12_findLevels_17 rfl ?_
    refine x_bipush (n := 20) (v := nI 100) dX12_findLevels_18 rfl (by decide) ?_
    refine x_icmpN_ge (n := 23) (tgt := 83) dX12_findLevels_20 rfl (by decide) (by omega) (by omega) (fun c_20 => ?_) (fun c_20 => ?_)
    · refine x_fg3 (hx I' hI (fun c j h1 h2 h3 => ?_))
      by_cases e : c = r
      · subst e; exact hk j (by omega)
      · exact ho c j (by omega) h2 h3
    · refine x_ald0 (n := 24) dX12_findLevels_23 rfl ?_
      refine x_getR (n := 27) flX12_37 rfl dX12_findLevels_24 rfl (rK hZ) (rP_onward hZ) ?_
      refine x_bipush (n := 29) (v := nI 100) dX12_findLevels_27 rfl (by decide) ?_
      refine x_ild2 (n := 30) dX12_findLevels_29 rfl ?_
      refine x_imulN (n := 31) dX12_findLevels_30 rfl ?_
      refine x_ild3 (n := 32) dX12_findLevels_31 rfl ?_
      refine x_iaddN (n := 33) dX12_findLevels_32 rfl ?_
      refine x_ald0 (n := 34) dX12_findLevels_33 rfl ?_
      refine x_ild2 (n := 35) dX12_findLevels_34 rfl ?_
      refine x_ild3 (n := 36) dX12_findLevels_35 rfl ?_
      refine x_cV2 (n := 39) (d' := 1) zcX12_costAt mlX12_128 dX12_findLevels_36 rfl (rK hZ) (Nat.le_of_ble_eq_true rfl) (Nat.le_of_ble_eq_true rfl) ?_
      refine c_X12_costAt hZ hB hr (by omega) ?_
      refine x_some ?_
      refine x_ild2 (n := 40) dX12_findLevels_39 rfl ?_
      refine x_ild1 (n := 41) dX12_findLevels_40 rfl ?_
      refine x_icmpN_ne (n := 44) (tgt := 48) dX12_findLevels_41 rfl (by decide) (by omega) (by omega) (fun c_41 => ?_) (fun c_41 => ?_)
      · refine x_ald0 (n := 49) dX12_findLevels_48 rfl ?_
        refine x_getR (n := 52) flX12_37 rfl dX12_findLevels_49 rfl (rK hZ) (rP_onward hZ) ?_
        refine x_bipush (n := 54) (v := nI 100) dX12_findLevels_52 rfl (by decide) ?_
        refine x_ild2 (n := 55) dX12_findLevels_54 rfl ?_
        refine x_ic1 (n := 56) dX12_findLevels_55 rfl ?_
        refine x_iaddN (n := 57) dX12_findLevels_56 rfl ?_
        refine x_imulN (n := 58) dX12_findLevels_57 rfl ?_
        refine x_ald0 (n := 59) dX12_findLevels_58 rfl ?_
        refine x_ild2 (n := 60) dX12_findLevels_59 rfl ?_
        refine x_ic1 (n := 61) dX12_findLevels_60 rfl ?_
        refine x_iaddN (n := 62) dX12_findLevels_61 rfl ?_
        refine x_ild3 (n := 63) dX12_findLevels_62 rfl ?_
        refine x_ald0 (n := 64) dX12_findLevels_63 rfl ?_
        refine x_getR (n := 67) flX12_7 rfl dX12_findLevels_64 rfl (rK hZ) (rP_s hZ) ?_
        refine x_bipush (n := 69) (v := nI 11) dX12_findLevels_67 rfl (by decide) ?_
        refine x_sld (n := 70) dX12_findLevels_69 rfl hZ (by omega) ?_
        rw [h11.1]
        refine x_cV3 (n := 73) (d' := 1) zcX12_cheapest mlX12_131 dX12_findLevels_70 rfl (rK hZ) (Nat.le_of_ble_eq_true rfl) (Nat.le_of_ble_eq_true rfl) ?_
        refine c_X12_cheapest (f := onw g (vN g 0 - 1 - (r + 1))) hZ (by omega) (by omega) (by omega) (fun j hj => ho (r + 1) j (by omega) (by omega) hj) (fun j hj => by have := onw_le hB (vN g 0 - 1 - (r + 1)) j (by omega) hj; omega) ?_
        have hch := (chp_eq (f := onw g (vN g 0 - 1 - (r + 1))) (sl := vN g 11) (show k < 100 by omega)).2
        refine x_some ?_
        refine x_iaddN (n := 74) dX12_findLevels_73 rfl ?_
        refine x_old (n := 75) dX12_findLevels_74 rfl (rA_onward hZ) (by decide) (Nat.le_of_ble_eq_true rfl) (by omega) ?_
        first | rw [ho (r + 1) _ (by omega) (by omega) hch] | skip
        refine x_iaddN (n := 76) dX12_findLevels_75 rfl ?_
        refine x_ost (n := 77) dX12_findLevels_76 rfl (rA_onward hZ) (by decide) (Nat.le_of_ble_eq_true rfl) (by omega) ?_
        refine x_iincN3 (n := 80) (k := 1) dX12_findLevels_77 rfl (by decide) rfl ?_
        refine x_goto (n := 17) dX12_findLevels_80 (by decide) ?_
        first | exact nx _ (by rw [onw_last (r := r) (k := k) (by omega)]; rfl) (by omega) | exact nx _ (by rw [onw_step (r := r) (k := k) (by omega)]) (by omega)
      · refine x_ic0 (n := 45) dX12_findLevels_44 rfl ?_
        refine x_goto (n := 75) dX12_findLevels_45 (by decide) ?_
        first | rw [ho (r + 1) _ (by omega) (by omega) hch] | skip
        refine x_iaddN (n := 76) dX12_findLevels_75 rfl ?_
        refine x_ost (n := 77) dX12_findLevels_76 rfl (rA_onward hZ) (by decide) (Nat.le_of_ble_eq_true rfl) (by omega) ?_
        refine x_iincN3 (n := 80) (k := 1) dX12_findLevels_77 rfl (by decide) rfl ?_
        refine x_goto (n := 17) dX12_findLevels_80 (by decide) ?_
        first | exact nx _ (by rw [onw_last (r := r) (k := k) (by omega)]; rfl) (by omega) | exact nx _ (by rw [onw_step (r := r) (k := k) (by omega)]) (by omega)
theorem l2_X12_findLevels (hZ : ShR Z) (hB : InvB g)
    (hx : ∀ I' : zI, offL I I' → onOK g (I' q_onward) 0 → zX l G mX12_findLevels 2 0 0 89 [some (.ref qR), some (.int (nI (vN g 0 - 1))), none, none] [] Z (va_up I' q_s g) Q) :
    ∀ r (I' : zI), r ≤ vN g 0 → offL I I' → onOK g (I' q_onward) r → zX l G mX12_findLevels 2 0 0 11 [some (.ref qR), some (.int (nI (vN g 0 - 1))), some (.int (nI r + Int32.ofInt (-1))), none] [] Z (va_up I' q_s g) Q := by
  have h0 := iv0 hB
  intro r
  induction r with
  | zero =>
    intro I' _ hI ho
    refine x_ild2 (n := 12) dX12_findLevels_11 rfl ?_
    refine x_if_lt (n := 15) (tgt := 89) dX12_findLevels_12 rfl (by decide) (fun c_12 => ?_) (fun c_12 => ?_)
    · exact x_fg2 (hx I' hI ho)
    · exact absurd (by decide) c_12
  | succ r ih =>
    intro I' hr hI ho
    rw [zdec (by omega), Nat.add_sub_cancel]
    refine x_ild2 (n := 12) dX12_findLevels_11 rfl ?_
    refine x_if_lt (n := 15) (tgt := 89) dX12_findLevels_12 rfl (by decide) (fun c_12 => ?_) (fun c_12 => ?_)
    · exact absurd c_12 (nI_pos (by omega))
    · refine x_ic0 (n := 16) dX12_findLevels_15 rfl ?_
      refine x_ist3 (n := 17) dX12_findLevels_16 rfl (by decide) rfl ?_
      refine l1_X12_findLevels (I := I') hZ hB (by omega) (fun I2 hI2 ho2 => ?_) 101 0 I' (fun _ _ _ => rfl) ho (fun j hj => absurd hj (by omega)) (by omega) (by omega)
      refine x_iinc2 (n := 86) (v := nI r + Int32.ofInt (-1)) dX12_findLevels_83 rfl (by decide) rfl rfl ?_
      refine x_goto (n := 11) dX12_findLevels_86 (by decide) ?_
      exact ih I2 (by omega) (fun p h1 h2 => (hI2 p h1 h2).trans (hI p h1 h2)) ho2
theorem l3_X12_findLevels (hZ : ShR Z) (hB : InvB g) (hq : ∀ I' : zI, offL I I' → (∀ c, c < vN g 0 → I' q_levels c = nI (lev g c)) → Q (some (.int (nI (gCost g)))) Z (va_up I' q_s g)) :
    ∀ m c (I' : zI), offL I I' → onOK g (I' q_onward) 0 → (∀ j, j < c → I' q_levels j = nI (lev g j)) → 1 ≤ c → c ≤ vN g 0 → vN g 0 - c < m → zX l G mX12_findLevels 2 0 0 105 [some (.ref qR), some (.int (nI (vN g 0 - 1))), some (.int (nI c)), none] [] Z (va_up I' q_s g) Q := by
  have h0 := iv0 hB
  have h11 := ivR0 hB
  intro m
  induction m with
  | zero => intro c I' _ _ _ _ _ h; exact absurd h (by omega)
  | succ m ih =>
    intro c I' hI ho hl hc1 hc hm
    have hl0 := lev_lt (g := g) 0
    have hlc := lev_lt (g := g) (c - 1)
    refine x_ild2 (n := 106) dX12_findLevels_105 rfl ?_
    refine x_ild1 (n := 107) dX12_findLevels_106 rfl ?_
    refine x_icmpN_gt (n := 110) (tgt := 142) dX12_findLevels_107 rfl (by decide) (by omega) (by omega) (fun c_107 => ?_) (fun c_107 => ?_)
    · refine x_ald0 (n := 143) dX12_findLevels_142 rfl ?_
      refine x_getR (n := 146) flX12_37 rfl dX12_findLevels_143 rfl (rK hZ) (rP_onward hZ) ?_
      refine x_ald0 (n := 147) dX12_findLevels_146 rfl ?_
      refine x_getR (n := 150) flX12_40 rfl dX12_findLevels_147 rfl (rK hZ) (rP_levels hZ) ?_
      refine x_ic0 (n := 151) dX12_findLevels_150 rfl ?_
      refine x_old (n := 152) dX12_findLevels_151 rfl (rA_levels hZ) (by decide) (Nat.le_of_ble_eq_true rfl) (by omega) ?_
      rw [hl 0 (by omega)]
      refine x_old (n := 153) dX12_findLevels_152 rfl (rA_onward hZ) (by decide) (Nat.le_of_ble_eq_true rfl) (by omega) ?_
      rw [show lev g 0 = 100 * 0 + lev g 0 by omega, ho 0 (lev g 0) (by omega) (by omega) hl0]
      refine r_iret dX12_findLevels_153 rfl ?_
      exact hq I' hI (fun j hj => hl j (by omega))
    · refine x_ald0 (n := 111) dX12_findLevels_110 rfl ?_
      refine x_getR (n := 114) flX12_40 rfl dX12_findLevels_111 rfl (rK hZ) (rP_levels hZ) ?_
      refine x_ild2 (n := 115) dX12_findLevels_114 rfl ?_
      refine x_ald0 (n := 116) dX12_findLevels_115 rfl ?_
      refine x_ild2 (n := 117) dX12_findLevels_116 rfl ?_
      refine x_ald0 (n := 118) dX12_findLevels_117 rfl ?_
      refine x_getR (n := 121) flX12_40 rfl dX12_findLevels_118 rfl (rK hZ) (rP_levels hZ) ?_
      refine x_ild2 (n := 122) dX12_findLevels_121 rfl ?_
      refine x_ic1 (n := 123) dX12_findLevels_122 rfl ?_
      refine x_isubN (n := 124) dX12_findLevels_123 rfl (by omega) ?_
      refine x_old (n := 125) dX12_findLevels_124 rfl (rA_levels hZ) (by decide) (Nat.le_of_ble_eq_true rfl) (by omega) ?_
      rw [hl (c - 1) (by omega)]
      refine x_ald0 (n := 126) dX12_findLevels_125 rfl ?_
      refine x_getR (n := 129) flX12_7 rfl dX12_findLevels_126 rfl (rK hZ) (rP_s hZ) ?_
      refine x_bipush (n := 131) (v := nI 11) dX12_findLevels_129 rfl (by decide) ?_
      refine x_sld (n := 132) dX12_findLevels_131 rfl hZ (by omega) ?_
      rw [h11.1]
      refine x_cV3 (n := 135) (d' := 1) zcX12_cheapest mlX12_131 dX12_findLevels_132 rfl (rK hZ) (Nat.le_of_ble_eq_true rfl) (Nat.le_of_ble_eq_true rfl) ?_
      refine c_X12_cheapest (f := onw g (vN g 0 - 1 - c)) hZ (by omega) hlc (by omega) (fun j hj => ho c j (by omega) (by omega) hj) (fun j hj => by have := onw_le hB (vN g 0 - 1 - c) j (by omega) hj; omega) ?_
      refine x_some ?_
      refine x_ost (n := 136) dX12_findLevels_135 rfl (rA_levels hZ) (by decide) (Nat.le_of_ble_eq_true rfl) (by omega) ?_
      refine x_iincN2 (n := 139) (k := 1) dX12_findLevels_136 rfl (by decide) rfl ?_
      refine x_goto (n := 105) dX12_findLevels_139 (by decide) ?_
      refine ih (c + 1) _ (fun p h1 h2 => by rw [va_up_off h2]; exact hI p h1 h2) (by rw [va_up_off (by decide)]; exact ho) (fun j hj => ?_) (by omega) (by omega) (by omega)
      rw [va_up_same]
      by_cases e : j = c
      · subst e
        rw [upd_same]
        match j, hc1 with
        | j + 1, _ => rfl
      · rw [upd_off e]; exact hl j (by omega)
theorem c_X12_findLevels (hZ : ShR Z) (hB : InvB g) (hq : ∀ I' : zI, offL I I' → (∀ c, c < vN g 0 → I' q_levels c = nI (lev g c)) → Q (some (.int (nI (gCost g)))) Z (va_up I' q_s g)) : zM l G mX12_findLevels 2 0 0 [.ref qR] Z (va_up I q_s g) Q := by
  have h0 := iv0 hB
  refine x_entry [some (.ref qR), none, none, none] 3 rfl rfl (Nat.le_of_ble_eq_true rfl) ?_
  have two := l2_X12_findLevels (l := l) (G := G) (I := I) (Q := Q) hZ hB ?_ (vN g 0) I (by omega) (fun _ _ _ => rfl) (fun c k h1 h2 => absurd h1 (by omega))
  · rw [zdec (by omega)] at two
    refine x_ald0 (n := 1) dX12_findLevels_0 rfl ?_
    refine x_getR (n := 4) flX12_7 rfl dX12_findLevels_1 rfl (rK hZ) (rP_s hZ) ?_
    refine x_ic0 (n := 5) dX12_findLevels_4 rfl ?_
    refine x_sld (n := 6) dX12_findLevels_5 rfl hZ (by omega) ?_
    rw [h0.1]
    refine x_ic1 (n := 7) dX12_findLevels_6 rfl ?_
    refine x_isubN (n := 8) dX12_findLevels_7 rfl (by omega) ?_
    refine x_ist1 (n := 9) dX12_findLevels_8 rfl (by decide) rfl ?_
    refine x_ild1 (n := 10) dX12_findLevels_9 rfl ?_
    refine x_ist2 (n := 11) dX12_findLevels_10 rfl (by decide) rfl ?_
    exact two
  · intro I' hI ho
    refine x_ald0 (n := 90) dX12_findLevels_89 rfl ?_
    refine x_getR (n := 93) flX12_40 rfl dX12_findLevels_90 rfl (rK hZ) (rP_levels hZ) ?_
    refine x_ic0 (n := 94) dX12_findLevels_93 rfl ?_
    refine x_ald0 (n := 95) dX12_findLevels_94 rfl ?_
    refine x_ic0 (n := 96) dX12_findLevels_95 rfl ?_
    refine x_ic0 (n := 97) dX12_findLevels_96 rfl ?_
    refine x_bipush (n := 99) (v := nI 99) dX12_findLevels_97 rfl (by decide) ?_
    refine x_cV3 (n := 102) (d' := 1) zcX12_cheapest mlX12_131 dX12_findLevels_99 rfl (rK hZ) (Nat.le_of_ble_eq_true rfl) (Nat.le_of_ble_eq_true rfl) ?_
    refine c_X12_cheapest (f := onw g (vN g 0 - 1)) hZ (by omega) (by omega) (by omega) (fun j hj => ho 0 j (by omega) (by omega) hj) (fun j hj => by have := onw_le hB (vN g 0 - 1) j (by omega) hj; omega) ?_
    refine x_some ?_
    refine x_ost (n := 103) dX12_findLevels_102 rfl (rA_levels hZ) (by decide) (Nat.le_of_ble_eq_true rfl) (by omega) ?_
    refine x_ic1 (n := 104) dX12_findLevels_103 rfl ?_
    refine x_ist2 (n := 105) dX12_findLevels_104 rfl (by decide) rfl ?_
    refine l3_X12_findLevels hZ hB hq (vN g 0 + 1) 1 _ (fun p h1 h2 => by rw [va_up_off h2]; exact hI p h1 h2) (by rw [va_up_off (by decide)]; exact ho) (fun j hj => ?_) (by omega) (by omega) (by omega)
    rw [va_up_same, show j = 0 by omega, upd_same]; rfl
theorem c_X12_best (hZ : ShR Z) (hB : InvB g) {x : Int32} (hq : ∀ I' : zI, offL I I' → Q (some (.int (f_best g x))) Z (va_up I' q_s g)) : zM l G mX12_best 3 0 0 [.ref qR, .int x] Z (va_up I q_s g) Q := by
  have h0 := iv0 hB
  refine x_entry [some (.ref qR), some (.int x), none] 1 rfl rfl (Nat.le_of_ble_eq_true rfl) ?_
  unfold f_best at hq
  by_cases hx : x = -1
  · rw [if_pos hx] at hq
    refine x_ild1 (n := 1) dX12_best_0 rfl ?_
    refine x_icm1 (n := 2) dX12_best_1 rfl ?_
    refine x_icmp_eq (n := 5) (tgt := 16) dX12_best_2 rfl (by decide) (fun c_2 => ?_) (fun c_2 => ?_)
    · refine x_ald0 (n := 17) dX12_best_16 rfl ?_
      refine x_cV0 (n := 20) (d' := 2) zcX12_findLevels mlX12_135 dX12_best_17 rfl (rK hZ) (Nat.le_of_ble_eq_true rfl) (Nat.le_of_ble_eq_true rfl) ?_
      refine c_X12_findLevels hZ hB (fun I' hI hl => ?_)
      refine x_some ?_
      refine x_ist2 (n := 21) dX12_best_20 rfl (by decide) rfl ?_
      refine x_ild1 (n := 22) dX12_best_21 rfl ?_
      refine x_icm1 (n := 23) dX12_best_22 rfl ?_
      refine x_icmp_ne (n := 26) (tgt := 30) dX12_best_23 rfl (by decide) (fun c_23 => ?_) (fun c_23 => ?_)
      · exact absurd hx c_23
      · refine x_ild2 (n := 27) dX12_best_26 rfl ?_
        refine x_goto (n := 36) dX12_best_27 (by decide) ?_
        refine r_iret dX12_best_36 rfl ?_
        exact hq I' hI
    · exact absurd hx c_2
  · rw [if_neg hx] at hq
    refine x_ild1 (n := 1) dX12_best_0 rfl ?_
    refine x_icm1 (n := 2) dX12_best_1 rfl ?_
    refine x_icmp_eq (n := 5) (tgt := 16) dX12_best_2 rfl (by decide) (fun c_2 => ?_) (fun c_2 => ?_)
    · exact absurd c_2 hx
    · refine x_ald0 (n := 6) dX12_best_5 rfl ?_
      refine x_ild1 (n := 7) dX12_best_6 rfl ?_
      refine x_cV1 (n := 10) (d' := 1) zcX12_isChain mlX12_102 dX12_best_7 rfl (rK hZ) (Nat.le_of_ble_eq_true rfl) (Nat.le_of_ble_eq_true rfl) ?_
      refine c_X12_isChain hZ h0.1 (by omega) ?_
      refine x_some ?_
      refine x_zif_ne (n := 13) (tgt := 16) dX12_best_10 rfl (by decide) (fun c_10 => ?_) (fun c_10 => ?_)
      · rw [if_pos c_10] at hq
        obtain ⟨c, hc, rfl⟩ := z_chain c_10
        rw [ix_nI (by omega)] at hq
        refine x_ald0 (n := 17) dX12_best_16 rfl ?_
        refine x_cV0 (n := 20) (d' := 2) zcX12_findLevels mlX12_135 dX12_best_17 rfl (rK hZ) (Nat.le_of_ble_eq_true rfl) (Nat.le_of_ble_eq_true rfl) ?_
        refine c_X12_findLevels hZ hB (fun I' hI hl => ?_)
        refine x_some ?_
        refine x_ist2 (n := 21) dX12_best_20 rfl (by decide) rfl ?_
        refine x_ild1 (n := 22) dX12_best_21 rfl ?_
        refine x_icm1 (n := 23) dX12_best_22 rfl ?_
        refine x_icmp_ne (n := 26) (tgt := 30) dX12_best_23 rfl (by decide) (fun c_23 => ?_) (fun c_23 => ?_)
        · refine x_ald0 (n := 31) dX12_best_30 rfl ?_
          refine x_getR (n := 34) flX12_40 rfl dX12_best_31 rfl (rK hZ) (rP_levels hZ) ?_
          refine x_ild1 (n := 35) dX12_best_34 rfl ?_
          refine x_old (n := 36) dX12_best_35 rfl (rA_levels hZ) (by decide) (Nat.le_of_ble_eq_true rfl) (by omega) ?_
          rw [hl c hc]
          refine r_iret dX12_best_36 rfl ?_
          exact hq I' hI
        · exact absurd c_23 hx
      · refine x_ldc (n := 15) dX12_best_13 rfl kiX12_100 ?_
        refine r_iret dX12_best_15 rfl ?_
        rw [if_neg (by grind)] at hq
        exact hq I (fun _ _ _ => rfl)
theorem l_X12_lay (hZ : ShR Z) (hB : InvB g) {f : Nat → Nat} {v : Int32} (hl : ∀ c, c < vN g 0 → I q_levels c = nI (f c)) (hq : Q (some (.int v)) Z (va_up I q_s (gLay g f (vN g 0)))) : ∀ m c, c ≤ vN g 0 → vN g 0 - c < m → gLay g f c 0 = g 0 → zX l G mX12_lay 3 0 0 7 [some (.ref qR), some (.int v), some (.int (nI c))] [] Z (va_up I q_s (gLay g f c)) Q := by
  have h0 := iv0 hB
  intro m
  induction m with
  | zero => intro c _ h; exact absurd h (by omega)
  | succ m ih =>
    intro c hc hm hg
    refine x_ild2 (n := 8) dX12_lay_7 rfl ?_
    refine x_ald0 (n := 9) dX12_lay_8 rfl ?_
    refine x_getR (n := 12) flX12_7 rfl dX12_lay_9 rfl (rK hZ) (rP_s hZ) ?_
    refine x_ic0 (n := 13) dX12_lay_12 rfl ?_
    refine x_sld (n := 14) dX12_lay_13 rfl hZ (by omega) ?_
    rw [hg, h0.1]
    refine x_icmpN_ge (n := 17) (tgt := 41) dX12_lay_14 rfl (by decide) (by omega) (by omega) (fun c_14 => ?_) (fun c_14 => ?_)
    · refine x_ild1 (n := 42) dX12_lay_41 rfl ?_
      refine r_iret dX12_lay_42 rfl ?_
      rw [show c = vN g 0 by omega]; exact hq
    · refine x_ald0 (n := 18) dX12_lay_17 rfl ?_
      refine x_getR (n := 21) flX12_7 rfl dX12_lay_18 rfl (rK hZ) (rP_s hZ) ?_
      refine x_ald0 (n := 22) dX12_lay_21 rfl ?_
      refine x_ild2 (n := 23) dX12_lay_22 rfl ?_
      refine x_cV1 (n := 26) (d' := 0) zcX12_chainAt mlX12_84 dX12_lay_23 rfl (rK hZ) (Nat.le_of_ble_eq_true rfl) (Nat.le_of_ble_eq_true rfl) ?_
      refine c_X12_chainAt ?_
      refine x_some ?_
      refine x_ic1 (n := 27) dX12_lay_26 rfl ?_
      refine x_iaddN (n := 28) dX12_lay_27 rfl ?_
      refine x_ald0 (n := 29) dX12_lay_28 rfl ?_
      refine x_getR (n := 32) flX12_40 rfl dX12_lay_29 rfl (rK hZ) (rP_levels hZ) ?_
      refine x_ild2 (n := 33) dX12_lay_32 rfl ?_
      refine x_old (n := 34) dX12_lay_33 rfl (rA_levels hZ) (by decide) (Nat.le_of_ble_eq_true rfl) (by omega) ?_
      rw [hl c (by omega)]
      refine x_sst (n := 35) dX12_lay_34 rfl hZ (by omega) ?_
      refine x_iincN2 (n := 38) (k := 1) dX12_lay_35 rfl (by decide) rfl ?_
      refine x_goto (n := 7) dX12_lay_38 (by decide) ?_
      exact ih (c + 1) (by omega) (by omega) ((upd_off (by omega)).trans hg)
theorem c_X12_lay (hZ : ShR Z) (hB : InvB g) (hq : ∀ I' : zI, offL I I' → Q (some (.int (nI (gCost g)))) Z (va_up I' q_s (gLay g (lev g) (vN g 0)))) : zM l G mX12_lay 3 0 0 [.ref qR] Z (va_up I q_s g) Q := by
  refine x_entry [some (.ref qR), none, none] 2 rfl rfl (Nat.le_of_ble_eq_true rfl) ?_
  refine x_ald0 (n := 1) dX12_lay_0 rfl ?_
  refine x_cV0 (n := 4) (d' := 2) zcX12_findLevels mlX12_135 dX12_lay_1 rfl (rK hZ) (Nat.le_of_ble_eq_true rfl) (Nat.le_of_ble_eq_true rfl) ?_
  refine c_X12_findLevels hZ hB (fun I' hI hl => ?_)
  refine x_some ?_
  refine x_ist1 (n := 5) dX12_lay_4 rfl (by decide) rfl ?_
  refine x_ic0 (n := 6) dX12_lay_5 rfl ?_
  refine x_ist2 (n := 7) dX12_lay_6 rfl (by decide) rfl ?_
  exact l_X12_lay hZ hB hl (hq I' hI) (vN g 0 + 1) 0 (by omega) (by omega) rfl
end
