section
variable {l : Launch} {G : zG} {Z : zS} {I : zI} {g : Nat → Int32} {mk b : Nat} {Q : Option Value → zS → zI → Prop}
theorem vW1 (h : cmW I mk g) (hB : InvB g) : I (mk + 10) 1 = nI (vN g 1) := h.2.1.trans (iv1 hB).1
theorem vA2 (h : cmA I mk g) (hB : InvB g) : I (mk + 10) 4 = nI (vN g 2) := h.2.1.trans (iv2 hB).1
theorem cW0 (h : cmW I mk g) {w : Nat} (hw : w < vN g 1) : I (mk + 15 + 2 * w) 0 = g (120 + 10 * w) := (h.2.2 w hw).1
theorem cW1 (h : cmW I mk g) {w : Nat} (hw : w < vN g 1) : I (mk + 15 + 2 * w) 1 = g (120 + 10 * w + 1) := (h.2.2 w hw).2.1
theorem cW2 (h : cmW I mk g) {w : Nat} (hw : w < vN g 1) : I (mk + 15 + 2 * w) 2 = g (120 + 10 * w + 2) := (h.2.2 w hw).2.2.1
theorem cW3 (h : cmW I mk g) {w : Nat} (hw : w < vN g 1) : I (mk + 15 + 2 * w) 3 = g (120 + 10 * w + 3) := (h.2.2 w hw).2.2.2.1
theorem cW4 (h : cmW I mk g) {w : Nat} (hw : w < vN g 1) : I (mk + 15 + 2 * w) 4 = g (120 + 10 * w + 5) := (h.2.2 w hw).2.2.2.2.1
theorem cW5 (h : cmW I mk g) {w : Nat} (hw : w < vN g 1) : I (mk + 15 + 2 * w) 5 = g (120 + 10 * w + 6) := (h.2.2 w hw).2.2.2.2.2.1
theorem cW6 (h : cmW I mk g) {w : Nat} (hw : w < vN g 1) : I (mk + 15 + 2 * w) 6 = g (120 + 10 * w + 9) := (h.2.2 w hw).2.2.2.2.2.2.1
theorem cW7 (h : cmW I mk g) {w : Nat} (hw : w < vN g 1) : I (mk + 15 + 2 * w + 1) 0 = g (120 + 10 * w + 7) := (h.2.2 w hw).2.2.2.2.2.2.2.1
theorem cW8 (h : cmW I mk g) {w : Nat} (hw : w < vN g 1) : I (mk + 15 + 2 * w + 1) 1 = g (120 + 10 * w + 8) := (h.2.2 w hw).2.2.2.2.2.2.2.2
/-- the chain of a work -/
theorem w_chain (hB : InvB g) {w : Nat} (hw : w < vN g 1) : g (120 + 10 * w + 1) = nI (vN g (120 + 10 * w + 1)) ∧ vN g (120 + 10 * w + 1) < vN g 0 := by
  have hc := (ivW hB hw).2.1
  have h0 := (iv0 hB).2
  have hc2 := rg_le hc (by omega)
  exact ⟨rg_nI hc (by omega) (by omega), by omega⟩
theorem w_ahead (hB : InvB g) {w : Nat} (hw : w < vN g 1) : g (120 + 10 * w + 5) = nI (vN g (120 + 10 * w + 5)) ∧ vN g (120 + 10 * w + 5) < 2 ^ 24 := by
  have hc := (ivW hB hw).2.2.2.2.2.1
  have hc2 := rg_le hc (by omega)
  exact ⟨rg_nI hc (by omega) (by omega), by omega⟩
theorem w_str (hB : InvB g) {w : Nat} (hw : w < vN g 1) : gStr g w = nI (vN g (20 + 4 * vN g (120 + 10 * w + 1) + 2)) ∧ vN g (20 + 4 * vN g (120 + 10 * w + 1) + 2) < 4 := by
  have hs := (ivC hB (w_chain hB hw).2).2.2.1
  have hs2 := rg_le hs (by omega)
  exact ⟨rg_nI hs (by omega) (by omega), by omega⟩
theorem c_X10_numbered (hM : ShM Z mk) (hW : cmW I mk g) (hB : InvB g) {w : Nat} (hw : w < vN g 1) (hq : Q (some (.ref (mk + 15 + 2 * w))) Z I) : zM l G mX10_numbered 1 0 0 [.ref (mk + 10), .int (nI w)] Z I Q := by
  refine x_entry [some (.ref (mk + 10)), some (.int (nI w))] 0 rfl rfl (Nat.le_of_ble_eq_true rfl) ?_
  have h1 := vW1 hW hB
  have h24 := (iv1 hB).2
  have hwI : (nI w).toInt = (w : Int) := nI_toInt (by omega)
  refine x_ild1 (n := 1) dX10_numbered_0 rfl ?_
  refine x_ic0 (n := 2) dX10_numbered_1 rfl ?_
  refine x_ald0 (n := 3) dX10_numbered_2 rfl ?_
  refine x_getI (n := 6) flX10_28 rfl dX10_numbered_3 rfl (mK_Ws hM) ?_
  rw [h1]
  refine x_ic1 (n := 7) dX10_numbered_6 rfl ?_
  refine x_isubN (n := 8) dX10_numbered_7 rfl (by omega) ?_
  refine x_cN3 (n := 11) (d' := 0) zcX11_inside mnX10_45 dX10_numbered_8 rfl (Nat.le_of_ble_eq_true rfl) (Nat.le_of_ble_eq_true rfl) ?_
  refine c_X11_inside true (by refine (decide_eq_true ?_).symm; rw [hwI, nI_toInt (n := vN g 1 - 1) (by omega)]; exact ⟨by show (0 : Int) ≤ _; omega, by omega⟩) ?_
  refine x_some ?_
  refine x_if_eq (n := 14) (tgt := 23) dX10_numbered_11 rfl (by decide) (fun c_11 => ?_) (fun c_11 => ?_)
  · exact absurd c_11 (by decide)
  · refine x_ald0 (n := 15) dX10_numbered_14 rfl ?_
    refine x_getR (n := 18) flX10_13 rfl dX10_numbered_15 rfl (mK_Ws hM) (mP_allW hM) ?_
    refine x_ild1 (n := 19) dX10_numbered_18 rfl ?_
    refine x_aaldN (n := 20) dX10_numbered_19 rfl (mA_allW hM) ⟨by decide, by decide⟩ (Nat.le_of_ble_eq_true rfl) (by omega) (mP_W hM (by omega)) ?_
    refine x_goto (n := 24) dX10_numbered_20 (by decide) ?_
    refine r_aret dX10_numbered_24 rfl (by first | exact Or.inl ⟨_, rfl⟩ | exact Or.inr ⟨_, rfl⟩) (by first | exact Or.inl rfl | exact Or.inr ⟨_, rfl⟩) ?_
    exact hq
theorem c_X10_numberedN (hM : ShM Z mk) (hW : cmW I mk g) (hB : InvB g) {x : Int32} (hx : zin x 0 ((vN g 1 : Int) - 1) = false) (hq : Q (some .null) Z I) : zM l G mX10_numbered 1 0 0 [.ref (mk + 10), .int x] Z I Q := by
  refine x_entry [some (.ref (mk + 10)), some (.int x)] 0 rfl rfl (Nat.le_of_ble_eq_true rfl) ?_
  have h1 := vW1 hW hB
  have h24 := (iv1 hB).2
  have hx2 := zin_f hx
  refine x_ild1 (n := 1) dX10_numbered_0 rfl ?_
  refine x_ic0 (n := 2) dX10_numbered_1 rfl ?_
  refine x_ald0 (n := 3) dX10_numbered_2 rfl ?_
  refine x_getI (n := 6) flX10_28 rfl dX10_numbered_3 rfl (mK_Ws hM) ?_
  refine x_ic1 (n := 7) dX10_numbered_6 rfl ?_
  rw [h1]
  refine x_isub (n := 8) dX10_numbered_7 rfl ?_
  refine x_cN3 (n := 11) (d' := 0) zcX11_inside mnX10_45 dX10_numbered_8 rfl (Nat.le_of_ble_eq_true rfl) (Nat.le_of_ble_eq_true rfl) ?_
  refine c_X11_inside false (by refine (decide_eq_false ?_).symm; rw [pk_sub_toInt (by omega) (by omega)]; intro h; exact hx2 ⟨h.1, by omega⟩) ?_
  refine x_some ?_
  refine x_if_eq (n := 14) (tgt := 23) dX10_numbered_11 rfl (by decide) (fun c_11 => ?_) (fun c_11 => ?_)
  · refine x_null (n := 24) dX10_numbered_23 rfl ?_
    refine r_aret dX10_numbered_24 rfl (by first | exact Or.inl ⟨_, rfl⟩ | exact Or.inr ⟨_, rfl⟩) (by first | exact Or.inl rfl | exact Or.inr ⟨_, rfl⟩) ?_
    exact hq
  · exact absurd (by decide) c_11
theorem l_X10_gangAt (hM : ShM Z mk) (hA : cmA I mk g) (hB : InvB g) {w : Nat} (hw : w < vN g 1) (hq : Q (some (.int (orNone (g (120 + 10 * w + 4))))) Z I) : ∀ m k, k ≤ vN g 2 → vN g 2 - k < m → (∀ j, j < k → g (360 + 2 * j + 1) ≠ nI w) → zX l G mX10_gangAt 0 0 0 2 [some (.ref (mk + 10)), some (.int (nI w)), some (.int (nI k))] [] Z I Q := by
  intro m
  have h2 := vA2 hA hB
  have h8 := (iv2 hB).2
  have h24 := (iv1 hB).2
  have hwI : (nI w).toInt = (w : Int) := nI_toInt (by omega)
  induction m with
  | zero => intro k _ h; exact absurd h (by omega)
  | succ m ih =>
    intro k hk hm hno
    refine x_ild2 (n := 3) dX10_gangAt_2 rfl ?_
    refine x_ald0 (n := 4) dX10_gangAt_3 rfl ?_
    refine x_getI (n := 7) flX10_36 rfl dX10_gangAt_4 rfl (mK_Ws hM) ?_
    rw [h2]
    refine x_icmpN_ge (n := 10) (tgt := 28) dX10_gangAt_7 rfl (by decide) (by omega) (by omega) (fun c_7 => ?_) (fun c_7 => ?_)
    · refine x_ldc (n := 30) dX10_gangAt_28 rfl kiX10_54 ?_
      refine r_iret dX10_gangAt_30 rfl ?_
      have hr := (ivW hB hw).2.2.2.2.1
      unfold orNone at hq
      rw [if_pos ?_] at hq
      · exact hq
      by_cases hn : (g (120 + 10 * w + 4)).toInt < 0
      · exact hn
      · exfalso
        obtain ⟨r1, r2⟩ := hr
        obtain ⟨j, hj, hj2⟩ := z_of (x := g (120 + 10 * w + 4)) (n := vN g 2) (by omega) (by omega)
        exact hno j (by omega) ((ivGW hB hw (by omega)).mpr hj2)
    · refine x_ald0 (n := 11) dX10_gangAt_10 rfl ?_
      refine x_getR (n := 14) flX10_21 rfl dX10_gangAt_11 rfl (mK_Ws hM) (mP_gangPlace hM) ?_
      refine x_ild2 (n := 15) dX10_gangAt_14 rfl ?_
      refine x_ialdN (n := 16) dX10_gangAt_15 rfl (mA_gangPlace hM) (Nat.le_of_ble_eq_true rfl) (by omega) ?_
      refine x_ild1 (n := 17) dX10_gangAt_16 rfl ?_
      rw [(hA.2.2 k (by omega)).2]
      refine x_icmp_ne (n := 20) (tgt := 22) dX10_gangAt_17 rfl (by decide) (fun c_17 => ?_) (fun c_17 => ?_)
      · refine x_iincN2 (n := 25) (k := 1) dX10_gangAt_22 rfl (by decide) rfl ?_
        refine x_goto (n := 2) dX10_gangAt_25 (by decide) ?_
        refine ih (k + 1) (by omega) (by omega) (fun j hj => ?_)
        by_cases hjk : j = k
        · subst hjk
          intro e
          apply c_17
          unfold orNone
          rw [e, hwI, if_neg (by omega)]
        · exact hno j (by omega)
      · refine x_ild2 (n := 21) dX10_gangAt_20 rfl ?_
        refine r_iret dX10_gangAt_21 rfl ?_
        have hp : g (360 + 2 * k + 1) = nI w := by
          unfold orNone at c_17
          by_cases hn : (g (360 + 2 * k + 1)).toInt < 0
          · rw [if_pos hn] at c_17; exfalso; rw [zeq, hwI] at c_17; have : (-1000000005 : Int32).toInt = -1000000005 := by decide
            omega
          · rw [if_neg hn] at c_17; exact c_17
        rw [(ivGW hB hw (by omega)).mp hp] at hq
        unfold orNone at hq
        rw [nI_toInt (by omega), if_neg (by omega)] at hq
        exact hq
theorem c_X10_gangAt (hM : ShM Z mk) (hA : cmA I mk g) (hB : InvB g) {w : Nat} (hw : w < vN g 1) (hq : Q (some (.int (orNone (g (120 + 10 * w + 4))))) Z I) : zM l G mX10_gangAt 0 0 0 [.ref (mk + 10), .int (nI w)] Z I Q := by
  refine x_entry [some (.ref (mk + 10)), some (.int (nI w)), none] 1 rfl rfl (Nat.le_of_ble_eq_true rfl) ?_
  refine x_ic0 (n := 1) dX10_gangAt_0 rfl ?_
  refine x_ist2 (n := 2) dX10_gangAt_1 rfl (by decide) rfl ?_
  exact l_X10_gangAt hM hA hB hw hq (vN g 2 + 1) 0 (by omega) (by omega) (fun j hj => absurd hj (by omega))
theorem l_X10_howManyAt (hM : ShM Z mk) (hW : cmW I mk g) (hB : InvB g) {x : Int32} (hq : Q (some (.int (nI (zct (g_at g x (-1)) (vN g 1))))) Z I) : ∀ m k, k ≤ vN g 1 → vN g 1 - k < m → zX l G mX10_howManyAt 0 0 0 4 [some (.ref (mk + 10)), some (.int x), some (.int (nI (zct (g_at g x (-1)) k))), some (.int (nI k))] [] Z I Q := by
  intro m
  have h1 := vW1 hW hB
  have h24 := (iv1 hB).2
  have hm1 : (-1 : Int32) < 0 := by decide
  induction m with
  | zero => intro k _ h; exact absurd h (by omega)
  | succ m ih =>
    intro k hk hm
    refine x_ild3 (n := 5) dX10_howManyAt_4 rfl ?_
    refine x_ald0 (n := 6) dX10_howManyAt_5 rfl ?_
    refine x_getI (n := 9) flX10_28 rfl dX10_howManyAt_6 rfl (mK_Ws hM) ?_
    rw [h1]
    refine x_icmpN_ge (n := 12) (tgt := 39) dX10_howManyAt_9 rfl (by decide) (by omega) (by omega) (fun c_9 => ?_) (fun c_9 => ?_)
    · refine x_ild2 (n := 40) dX10_howManyAt_39 rfl ?_
      refine r_iret dX10_howManyAt_40 rfl ?_
      rw [show k = vN g 1 by omega]; exact hq
    · refine x_ild2 (n := 13) dX10_howManyAt_12 rfl ?_
      refine x_ald0 (n := 14) dX10_howManyAt_13 rfl ?_
      refine x_getR (n := 17) flX10_13 rfl dX10_howManyAt_14 rfl (mK_Ws hM) (mP_allW hM) ?_
      refine x_ild3 (n := 18) dX10_howManyAt_17 rfl ?_
      refine x_aaldN (n := 19) dX10_howManyAt_18 rfl (mA_allW hM) ⟨by decide, by decide⟩ (Nat.le_of_ble_eq_true rfl) (by omega) (mP_W hM (by omega)) ?_
      refine x_getI (n := 22) flX10_55 rfl dX10_howManyAt_19 rfl (mK_W hM (by omega)) ?_
      refine x_ild1 (n := 23) dX10_howManyAt_22 rfl ?_
      rw [cW1 hW (w := k) (by omega)]
      refine x_icmp_ne (n := 26) (tgt := 30) dX10_howManyAt_23 rfl (by decide) (fun c_23 => ?_) (fun c_23 => ?_)
      · refine x_ic0 (n := 31) dX10_howManyAt_30 rfl ?_
        refine x_iaddN (n := 32) dX10_howManyAt_31 rfl ?_
        refine x_ist2 (n := 33) dX10_howManyAt_32 rfl (by decide) rfl ?_
        refine x_iincN3 (n := 36) (k := 1) dX10_howManyAt_33 rfl (by decide) rfl ?_
        refine x_goto (n := 4) dX10_howManyAt_36 (by decide) ?_
        first | (rw [zct_t (decide_eq_true ⟨c_23, Or.inl hm1⟩)]; exact ih (k + 1) (by omega) (by omega)) | (rw [zct_f (decide_eq_false (fun h => c_23 h.1))]; exact ih (k + 1) (by omega) (by omega))
      · refine x_ic1 (n := 27) dX10_howManyAt_26 rfl ?_
        refine x_goto (n := 31) dX10_howManyAt_27 (by decide) ?_
        refine x_iaddN (n := 32) dX10_howManyAt_31 rfl ?_
        refine x_ist2 (n := 33) dX10_howManyAt_32 rfl (by decide) rfl ?_
        refine x_iincN3 (n := 36) (k := 1) dX10_howManyAt_33 rfl (by decide) rfl ?_
        refine x_goto (n := 4) dX10_howManyAt_36 (by decide) ?_
        first | (rw [zct_t (decide_eq_true ⟨c_23, Or.inl hm1⟩)]; exact ih (k + 1) (by omega) (by omega)) | (rw [zct_f (decide_eq_false (fun h => c_23 h.1))]; exact ih (k + 1) (by omega) (by omega))
theorem c_X10_howManyAt (hM : ShM Z mk) (hW : cmW I mk g) (hB : InvB g) {x : Int32} (hq : Q (some (.int (nI (zct (g_at g x (-1)) (vN g 1))))) Z I) : zM l G mX10_howManyAt 0 0 0 [.ref (mk + 10), .int x] Z I Q := by
  refine x_entry [some (.ref (mk + 10)), some (.int x), none, none] 2 rfl rfl (Nat.le_of_ble_eq_true rfl) ?_
  refine x_ic0 (n := 1) dX10_howManyAt_0 rfl ?_
  refine x_ist2 (n := 2) dX10_howManyAt_1 rfl (by decide) rfl ?_
  refine x_ic0 (n := 3) dX10_howManyAt_2 rfl ?_
  refine x_ist3 (n := 4) dX10_howManyAt_3 rfl (by decide) rfl ?_
  exact l_X10_howManyAt hM hW hB hq (vN g 1 + 1) 0 (by omega) (by omega)
theorem l_X10_howManySlips (hM : ShM Z mk) (hW : cmW I mk g) (hB : InvB g) (hq : Q (some (.int (nI (zct (g_slip5 g) (vN g 1))))) Z I) : ∀ m k, k ≤ vN g 1 → vN g 1 - k < m → zX l G mX10_howManySlips 0 0 0 4 [some (.ref (mk + 10)), some (.int (nI (zct (g_slip5 g) k))), some (.int (nI k))] [] Z I Q := by
  intro m
  have h1 := vW1 hW hB
  have h24 := (iv1 hB).2
  induction m with
  | zero => intro k _ h; exact absurd h (by omega)
  | succ m ih =>
    intro k hk hm
    refine x_ild2 (n := 5) dX10_howManySlips_4 rfl ?_
    refine x_ald0 (n := 6) dX10_howManySlips_5 rfl ?_
    refine x_getI (n := 9) flX10_28 rfl dX10_howManySlips_6 rfl (mK_Ws hM) ?_
    rw [h1]
    refine x_icmpN_ge (n := 12) (tgt := 39) dX10_howManySlips_9 rfl (by decide) (by omega) (by omega) (fun c_9 => ?_) (fun c_9 => ?_)
    · refine x_ild1 (n := 40) dX10_howManySlips_39 rfl ?_
      refine r_iret dX10_howManySlips_40 rfl ?_
      rw [show k = vN g 1 by omega]; exact hq
    · refine x_ild1 (n := 13) dX10_howManySlips_12 rfl ?_
      refine x_ald0 (n := 14) dX10_howManySlips_13 rfl ?_
      refine x_getR (n := 17) flX10_13 rfl dX10_howManySlips_14 rfl (mK_Ws hM) (mP_allW hM) ?_
      refine x_ild2 (n := 18) dX10_howManySlips_17 rfl ?_
      refine x_aaldN (n := 19) dX10_howManySlips_18 rfl (mA_allW hM) ⟨by decide, by decide⟩ (Nat.le_of_ble_eq_true rfl) (by omega) (mP_W hM (by omega)) ?_
      refine x_getI (n := 22) flX10_58 rfl dX10_howManySlips_19 rfl (mK_W hM (by omega)) ?_
      refine x_ic5 (n := 23) dX10_howManySlips_22 rfl ?_
      rw [cW0 hW (w := k) (by omega)]
      refine x_icmp_ne (n := 26) (tgt := 30) dX10_howManySlips_23 rfl (by decide) (fun c_23 => ?_) (fun c_23 => ?_)
      · refine x_ic0 (n := 31) dX10_howManySlips_30 rfl ?_
        refine x_iaddN (n := 32) dX10_howManySlips_31 rfl ?_
        refine x_ist1 (n := 33) dX10_howManySlips_32 rfl (by decide) rfl ?_
        refine x_iincN2 (n := 36) (k := 1) dX10_howManySlips_33 rfl (by decide) rfl ?_
        refine x_goto (n := 4) dX10_howManySlips_36 (by decide) ?_
        first | (rw [zct_t (decide_eq_true c_23)]; exact ih (k + 1) (by omega) (by omega)) | (rw [zct_f (decide_eq_false c_23)]; exact ih (k + 1) (by omega) (by omega))
      · refine x_ic1 (n := 27) dX10_howManySlips_26 rfl ?_
        refine x_goto (n := 31) dX10_howManySlips_27 (by decide) ?_
        refine x_iaddN (n := 32) dX10_howManySlips_31 rfl ?_
        refine x_ist1 (n := 33) dX10_howManySlips_32 rfl (by decide) rfl ?_
        refine x_iincN2 (n := 36) (k := 1) dX10_howManySlips_33 rfl (by decide) rfl ?_
        refine x_goto (n := 4) dX10_howManySlips_36 (by decide) ?_
        first | (rw [zct_t (decide_eq_true c_23)]; exact ih (k + 1) (by omega) (by omega)) | (rw [zct_f (decide_eq_false c_23)]; exact ih (k + 1) (by omega) (by omega))
theorem c_X10_howManySlips (hM : ShM Z mk) (hW : cmW I mk g) (hB : InvB g) (hq : Q (some (.int (nI (zct (g_slip5 g) (vN g 1))))) Z I) : zM l G mX10_howManySlips 0 0 0 [.ref (mk + 10)] Z I Q := by
  refine x_entry [some (.ref (mk + 10)), none, none] 2 rfl rfl (Nat.le_of_ble_eq_true rfl) ?_
  refine x_ic0 (n := 1) dX10_howManySlips_0 rfl ?_
  refine x_ist1 (n := 2) dX10_howManySlips_1 rfl (by decide) rfl ?_
  refine x_ic0 (n := 3) dX10_howManySlips_2 rfl ?_
  refine x_ist2 (n := 4) dX10_howManySlips_3 rfl (by decide) rfl ?_
  exact l_X10_howManySlips hM hW hB hq (vN g 1 + 1) 0 (by omega) (by omega)
theorem l_X10_howManyQuarrel (hM : ShM Z mk) (hW : cmW I mk g) (hB : InvB g) (hq : Q (some (.int (f_quarrels g))) Z I) : ∀ m k, k ≤ vN g 1 → vN g 1 - k < m → zX l G mX10_howManyQuarrel 0 0 0 4 [some (.ref (mk + 10)), some (.int (nI (zct (g_quar g) k))), some (.int (nI k))] [] Z I Q := by
  intro m
  have h1 := vW1 hW hB
  have h24 := (iv1 hB).2
  induction m with
  | zero => intro k _ h; exact absurd h (by omega)
  | succ m ih =>
    intro k hk hm
    refine x_ild2 (n := 5) dX10_howManyQuarrel_4 rfl ?_
    refine x_ald0 (n := 6) dX10_howManyQuarrel_5 rfl ?_
    refine x_getI (n := 9) flX10_28 rfl dX10_howManyQuarrel_6 rfl (mK_Ws hM) ?_
    rw [h1]
    refine x_icmpN_ge (n := 12) (tgt := 51) dX10_howManyQuarrel_9 rfl (by decide) (by omega) (by omega) (fun c_9 => ?_) (fun c_9 => ?_)
    · refine x_ild1 (n := 52) dX10_howManyQuarrel_51 rfl ?_
      refine r_iret dX10_howManyQuarrel_52 rfl ?_
      rw [show k = vN g 1 by omega]; exact hq
    · refine x_ild1 (n := 13) dX10_howManyQuarrel_12 rfl ?_
      refine x_ald0 (n := 14) dX10_howManyQuarrel_13 rfl ?_
      refine x_getR (n := 17) flX10_13 rfl dX10_howManyQuarrel_14 rfl (mK_Ws hM) (mP_allW hM) ?_
      refine x_ild2 (n := 18) dX10_howManyQuarrel_17 rfl ?_
      refine x_aaldN (n := 19) dX10_howManyQuarrel_18 rfl (mA_allW hM) ⟨by decide, by decide⟩ (Nat.le_of_ble_eq_true rfl) (by omega) (mP_W hM (by omega)) ?_
      refine x_getR (n := 22) flX10_61 rfl dX10_howManyQuarrel_19 rfl (mK_W hM (by omega)) (mP_measured hM (by omega)) ?_
      refine x_ic0 (n := 23) dX10_howManyQuarrel_22 rfl ?_
      refine x_ialdN (n := 24) dX10_howManyQuarrel_23 rfl (mA_measured hM (by omega)) (Nat.le_of_ble_eq_true rfl) (by omega) ?_
      refine x_ald0 (n := 25) dX10_howManyQuarrel_24 rfl ?_
      refine x_getR (n := 28) flX10_13 rfl dX10_howManyQuarrel_25 rfl (mK_Ws hM) (mP_allW hM) ?_
      refine x_ild2 (n := 29) dX10_howManyQuarrel_28 rfl ?_
      refine x_aaldN (n := 30) dX10_howManyQuarrel_29 rfl (mA_allW hM) ⟨by decide, by decide⟩ (Nat.le_of_ble_eq_true rfl) (by omega) (mP_W hM (by omega)) ?_
      refine x_getR (n := 33) flX10_61 rfl dX10_howManyQuarrel_30 rfl (mK_W hM (by omega)) (mP_measured hM (by omega)) ?_
      refine x_ic1 (n := 34) dX10_howManyQuarrel_33 rfl ?_
      refine x_ialdN (n := 35) dX10_howManyQuarrel_34 rfl (mA_measured hM (by omega)) (Nat.le_of_ble_eq_true rfl) (by omega) ?_
      rw [cW7 hW (w := k) (by omega), cW8 hW (w := k) (by omega)]
      refine x_icmp_eq (n := 38) (tgt := 42) dX10_howManyQuarrel_35 rfl (by decide) (fun c_35 => ?_) (fun c_35 => ?_)
      · refine x_ic0 (n := 43) dX10_howManyQuarrel_42 rfl ?_
        refine x_iaddN (n := 44) dX10_howManyQuarrel_43 rfl ?_
        refine x_ist1 (n := 45) dX10_howManyQuarrel_44 rfl (by decide) rfl ?_
        refine x_iincN2 (n := 48) (k := 1) dX10_howManyQuarrel_45 rfl (by decide) rfl ?_
        refine x_goto (n := 4) dX10_howManyQuarrel_48 (by decide) ?_
        first | (rw [zct_t (decide_eq_true c_35)]; exact ih (k + 1) (by omega) (by omega)) | (rw [zct_f (decide_eq_false (fun h => h c_35))]; exact ih (k + 1) (by omega) (by omega))
      · refine x_ic1 (n := 39) dX10_howManyQuarrel_38 rfl ?_
        refine x_goto (n := 43) dX10_howManyQuarrel_39 (by decide) ?_
        refine x_iaddN (n := 44) dX10_howManyQuarrel_43 rfl ?_
        refine x_ist1 (n := 45) dX10_howManyQuarrel_44 rfl (by decide) rfl ?_
        refine x_iincN2 (n := 48) (k := 1) dX10_howManyQuarrel_45 rfl (by decide) rfl ?_
        refine x_goto (n := 4) dX10_howManyQuarrel_48 (by decide) ?_
        first | (rw [zct_t (decide_eq_true c_35)]; exact ih (k + 1) (by omega) (by omega)) | (rw [zct_f (decide_eq_false (fun h => h c_35))]; exact ih (k + 1) (by omega) (by omega))
theorem c_X10_howManyQuarrel (hM : ShM Z mk) (hW : cmW I mk g) (hB : InvB g) (hq : Q (some (.int (f_quarrels g))) Z I) : zM l G mX10_howManyQuarrel 0 0 0 [.ref (mk + 10)] Z I Q := by
  refine x_entry [some (.ref (mk + 10)), none, none] 2 rfl rfl (Nat.le_of_ble_eq_true rfl) ?_
  refine x_ic0 (n := 1) dX10_howManyQuarrel_0 rfl ?_
  refine x_ist1 (n := 2) dX10_howManyQuarrel_1 rfl (by decide) rfl ?_
  refine x_ic0 (n := 3) dX10_howManyQuarrel_2 rfl ?_
  refine x_ist2 (n := 4) dX10_howManyQuarrel_3 rfl (by decide) rfl ?_
  exact l_X10_howManyQuarrel hM hW hB hq (vN g 1 + 1) 0 (by omega) (by omega)
theorem l_X10_doneTogether (hM : ShM Z mk) (hW : cmW I mk g) (hB : InvB g) (hq : Q (some (.int (doneF g (vN g 1)))) Z I) : ∀ m k, k ≤ vN g 1 → vN g 1 - k < m → zX l G mX10_doneTogether 0 0 0 4 [some (.ref (mk + 10)), some (.int (doneF g k)), some (.int (nI k))] [] Z I Q := by
  intro m
  have h1 := vW1 hW hB
  have h24 := (iv1 hB).2
  induction m with
  | zero => intro k _ h; exact absurd h (by omega)
  | succ m ih =>
    intro k hk hm
    refine x_ild2 (n := 5) dX10_doneTogether_4 rfl ?_
    refine x_ald0 (n := 6) dX10_doneTogether_5 rfl ?_
    refine x_getI (n := 9) flX10_28 rfl dX10_doneTogether_6 rfl (mK_Ws hM) ?_
    rw [h1]
    refine x_icmpN_ge (n := 12) (tgt := 30) dX10_doneTogether_9 rfl (by decide) (by omega) (by omega) (fun c_9 => ?_) (fun c_9 => ?_)
    · refine x_ild1 (n := 31) dX10_doneTogether_30 rfl ?_
      refine r_iret dX10_doneTogether_31 rfl ?_
      rw [show k = vN g 1 by omega]; exact hq
    · refine x_ild1 (n := 13) dX10_doneTogether_12 rfl ?_
      refine x_ald0 (n := 14) dX10_doneTogether_13 rfl ?_
      refine x_getR (n := 17) flX10_13 rfl dX10_doneTogether_14 rfl (mK_Ws hM) (mP_allW hM) ?_
      refine x_ild2 (n := 18) dX10_doneTogether_17 rfl ?_
      refine x_aaldN (n := 19) dX10_doneTogether_18 rfl (mA_allW hM) ⟨by decide, by decide⟩ (Nat.le_of_ble_eq_true rfl) (by omega) (mP_W hM (by omega)) ?_
      refine x_getI (n := 22) flX10_64 rfl dX10_doneTogether_19 rfl (mK_W hM (by omega)) ?_
      rw [cW3 hW (w := k) (by omega)]
      refine x_iadd (n := 23) dX10_doneTogether_22 rfl ?_
      refine x_ist1 (n := 24) dX10_doneTogether_23 rfl (by decide) rfl ?_
      refine x_iincN2 (n := 27) (k := 1) dX10_doneTogether_24 rfl (by decide) rfl ?_
      refine x_goto (n := 4) dX10_doneTogether_27 (by decide) ?_
      exact ih (k + 1) (by omega) (by omega)
theorem c_X10_doneTogether (hM : ShM Z mk) (hW : cmW I mk g) (hB : InvB g) (hq : Q (some (.int (doneF g (vN g 1)))) Z I) : zM l G mX10_doneTogether 0 0 0 [.ref (mk + 10)] Z I Q := by
  refine x_entry [some (.ref (mk + 10)), none, none] 2 rfl rfl (Nat.le_of_ble_eq_true rfl) ?_
  refine x_ic0 (n := 1) dX10_doneTogether_0 rfl ?_
  refine x_ist1 (n := 2) dX10_doneTogether_1 rfl (by decide) rfl ?_
  refine x_ic0 (n := 3) dX10_doneTogether_2 rfl ?_
  refine x_ist2 (n := 4) dX10_doneTogether_3 rfl (by decide) rfl ?_
  exact l_X10_doneTogether hM hW hB hq (vN g 1 + 1) 0 (by omega) (by omega)
theorem l_X10_throughBits (hM : ShM Z mk) (hW : cmW I mk g) (hB : InvB g) (hq : Q (some (.int (nI (zbs (gThr g) (vN g 1))))) Z I) : ∀ m k, k ≤ vN g 1 → vN g 1 - k < m → zX l G mX10_throughBits 1 0 0 4 [some (.ref (mk + 10)), some (.int (nI (zbs (gThr g) k))), some (.int (nI k))] [] Z I Q := by
  intro m
  have h1 := vW1 hW hB
  have h24 := (iv1 hB).2
  induction m with
  | zero => intro k _ h; exact absurd h (by omega)
  | succ m ih =>
    intro k hk hm
    refine x_ild2 (n := 5) dX10_throughBits_4 rfl ?_
    refine x_ald0 (n := 6) dX10_throughBits_5 rfl ?_
    refine x_getI (n := 9) flX10_28 rfl dX10_throughBits_6 rfl (mK_Ws hM) ?_
    rw [h1]
    refine x_icmpN_ge (n := 12) (tgt := 36) dX10_throughBits_9 rfl (by decide) (by omega) (by omega) (fun c_9 => ?_) (fun c_9 => ?_)
    · refine x_ild1 (n := 37) dX10_throughBits_36 rfl ?_
      refine r_iret dX10_throughBits_37 rfl ?_
      rw [show k = vN g 1 by omega]; exact hq
    · refine x_ald0 (n := 13) dX10_throughBits_12 rfl ?_
      refine x_getR (n := 16) flX10_13 rfl dX10_throughBits_13 rfl (mK_Ws hM) (mP_allW hM) ?_
      refine x_ild2 (n := 17) dX10_throughBits_16 rfl ?_
      refine x_aaldN (n := 18) dX10_throughBits_17 rfl (mA_allW hM) ⟨by decide, by decide⟩ (Nat.le_of_ble_eq_true rfl) (by omega) (mP_W hM (by omega)) ?_
      refine x_cV0 (n := 21) (d' := 0) zcX9_isThrough mlX10_67 dX10_throughBits_18 rfl (mK_W hM (by omega)) (Nat.le_of_ble_eq_true rfl) (Nat.le_of_ble_eq_true rfl) ?_
      refine c_X9_isThrough (mS_W hM (by omega)) ?_
      refine x_some ?_
      rw [cW2 hW (w := k) (by omega), cW3 hW (w := k) (by omega)]
      refine x_zif_eq (n := 24) (tgt := 30) dX10_throughBits_21 rfl (by decide) (fun c_21 => ?_) (fun c_21 => ?_)
      · refine x_iincN2 (n := 33) (k := 1) dX10_throughBits_30 rfl (by decide) rfl ?_
        refine x_goto (n := 4) dX10_throughBits_33 (by decide) ?_
        have hu : gThr g k = decide (g (120 + 10 * k + 3) = g (120 + 10 * k + 2)) := by unfold gThr; rw [decide_eq_true (show k < vN g 1 by omega), Bool.true_and]
        first | (rw [zbs_t (hu.trans c_21)]; exact ih (k + 1) (by omega) (by omega)) | (rw [zbs_f (hu.trans c_21)]; exact ih (k + 1) (by omega) (by omega))
      · refine x_ild1 (n := 25) dX10_throughBits_24 rfl ?_
        refine x_ic1 (n := 26) dX10_throughBits_25 rfl ?_
        refine x_ild2 (n := 27) dX10_throughBits_26 rfl ?_
        refine x_ishl (n := 28) dX10_throughBits_27 rfl ?_
        refine x_ior (n := 29) dX10_throughBits_28 rfl ?_
        rw [zshl (by omega), zor]
        refine x_ist1 (n := 30) dX10_throughBits_29 rfl (by decide) rfl ?_
        refine x_iincN2 (n := 33) (k := 1) dX10_throughBits_30 rfl (by decide) rfl ?_
        refine x_goto (n := 4) dX10_throughBits_33 (by decide) ?_
        have hu : gThr g k = decide (g (120 + 10 * k + 3) = g (120 + 10 * k + 2)) := by unfold gThr; rw [decide_eq_true (show k < vN g 1 by omega), Bool.true_and]
        first | (rw [zbs_t (hu.trans c_21)]; exact ih (k + 1) (by omega) (by omega)) | (rw [zbs_f (hu.trans c_21)]; exact ih (k + 1) (by omega) (by omega))
theorem c_X10_throughBits (hM : ShM Z mk) (hW : cmW I mk g) (hB : InvB g) (hq : Q (some (.int (nI (zbs (gThr g) (vN g 1))))) Z I) : zM l G mX10_throughBits 1 0 0 [.ref (mk + 10)] Z I Q := by
  refine x_entry [some (.ref (mk + 10)), none, none] 2 rfl rfl (Nat.le_of_ble_eq_true rfl) ?_
  refine x_ic0 (n := 1) dX10_throughBits_0 rfl ?_
  refine x_ist1 (n := 2) dX10_throughBits_1 rfl (by decide) rfl ?_
  refine x_ic0 (n := 3) dX10_throughBits_2 rfl ?_
  refine x_ist2 (n := 4) dX10_throughBits_3 rfl (by decide) rfl ?_
  exact l_X10_throughBits hM hW hB hq (vN g 1 + 1) 0 (by omega) (by omega)
/-- a work at chain c of this kind with so much done -/
def gCW (g : Nat → Int32) (kd ld : Int32) (c w : Nat) : Bool := decide (g (120 + 10 * w + 1) = nI c ∧ g (120 + 10 * w) = kd ∧ ld ≤ g (120 + 10 * w + 3))
def cwB (g : Nat → Int32) (kd ld : Int32) (k s : Nat) : Prop := s < 2 ^ 24 ∧ ∀ c, c < 24 → s.testBit c = decide (0 < zct (gCW g kd ld c) k)
theorem l_X10_chainsWith (hM : ShM Z mk) (hW : cmW I mk g) (hB : InvB g) {kd ld : Int32} (hq : ∀ s, cwB g kd ld (vN g 1) s → Q (some (.int (nI s))) Z I) : ∀ m k s, cwB g kd ld k s → k ≤ vN g 1 → vN g 1 - k < m → zX l G mX10_chainsWith 0 0 0 5 [some (.ref (mk + 10)), some (.int kd), some (.int ld), some (.int (nI s)), some (.int (nI k))] [] Z I Q := by
  intro m
  have h1 := vW1 hW hB
  have h24 := (iv1 hB).2
  have h0 := (iv0 hB).2
  induction m with
  | zero => intro k s _ _ h; exact absurd h (by omega)
  | succ m ih =>
    intro k s hs hk hm
    refine x_ild4 (n := 7) dX10_chainsWith_5 rfl ?_
    refine x_ald0 (n := 8) dX10_chainsWith_7 rfl ?_
    refine x_getI (n := 11) flX10_28 rfl dX10_chainsWith_8 rfl (mK_Ws hM) ?_
    rw [h1]
    refine x_icmpN_ge (n := 14) (tgt := 63) dX10_chainsWith_11 rfl (by decide) (by omega) (by omega) (fun c_11 => ?_) (fun c_11 => ?_)
    · refine x_ild3 (n := 64) dX10_chainsWith_63 rfl ?_
      refine r_iret dX10_chainsWith_64 rfl ?_
      rw [show k = vN g 1 by omega] at hs; exact hq s hs
    · refine x_ald0 (n := 15) dX10_chainsWith_14 rfl ?_
      refine x_getR (n := 18) flX10_13 rfl dX10_chainsWith_15 rfl (mK_Ws hM) (mP_allW hM) ?_
      refine x_ild4 (n := 20) dX10_chainsWith_18 rfl ?_
      refine x_aaldN (n := 21) dX10_chainsWith_20 rfl (mA_allW hM) ⟨by decide, by decide⟩ (Nat.le_of_ble_eq_true rfl) (by omega) (mP_W hM (by omega)) ?_
      refine x_getI (n := 24) flX10_58 rfl dX10_chainsWith_21 rfl (mK_W hM (by omega)) ?_
      refine x_ild1 (n := 25) dX10_chainsWith_24 rfl ?_
      rw [cW0 hW (w := k) (by omega)]
      refine x_icmp_ne (n := 28) (tgt := 57) dX10_chainsWith_25 rfl (by decide) (fun c_25 => ?_) (fun c_25 => ?_)
      · refine x_iincN4 (n := 60) (k := 1) dX10_chainsWith_57 rfl (by decide) rfl ?_
        refine x_goto (n := 5) dX10_chainsWith_60 (by decide) ?_
        refine ih (k + 1) _ ?_ (by omega) (by omega)
        first
          | (refine ⟨Nat.or_lt_two_pow hs.1 (Nat.pow_lt_pow_right (by omega) (by omega)), fun c hc => ?_⟩
             rw [Nat.testBit_or, hs.2 c hc, Nat.testBit_two_pow]
             by_cases hcc : vN g (120 + 10 * k + 1) = c
             · have hp : gCW g kd ld c k = true := decide_eq_true ⟨by rw [hc1, hcc], c_25, by rw [zle]; rw [zlt] at c_39; omega⟩
               rw [decide_eq_true hcc, Bool.or_true, decide_eq_true (by rw [← zct_t hp]; omega)]
             · have hp : gCW g kd ld c k = false := decide_eq_false (by rintro ⟨e, _⟩; rw [hc1] at e; exact hcc ((nI_eq (by omega) (by omega)).mp e))
               rw [decide_eq_false hcc, Bool.or_false, ← zct_f hp, Nat.add_zero])
          | (refine ⟨hs.1, fun c hc => ?_⟩
             have hp : gCW g kd ld c k = false := decide_eq_false (by rintro ⟨_, e2, e3⟩; first | exact c_25 e2 | (rw [zle] at e3; rw [zlt] at c_39; omega))
             rw [hs.2 c hc, ← zct_f hp, Nat.add_zero])
      · refine x_ald0 (n := 29) dX10_chainsWith_28 rfl ?_
        refine x_getR (n := 32) flX10_13 rfl dX10_chainsWith_29 rfl (mK_Ws hM) (mP_allW hM) ?_
        refine x_ild4 (n := 34) dX10_chainsWith_32 rfl ?_
        refine x_aaldN (n := 35) dX10_chainsWith_34 rfl (mA_allW hM) ⟨by decide, by decide⟩ (Nat.le_of_ble_eq_true rfl) (by omega) (mP_W hM (by omega)) ?_
        refine x_getI (n := 38) flX10_64 rfl dX10_chainsWith_35 rfl (mK_W hM (by omega)) ?_
        refine x_ild2 (n := 39) dX10_chainsWith_38 rfl ?_
        rw [cW3 hW (w := k) (by omega)]
        refine x_icmp_lt (n := 42) (tgt := 57) dX10_chainsWith_39 rfl (by decide) (fun c_39 => ?_) (fun c_39 => ?_)
        · refine x_iincN4 (n := 60) (k := 1) dX10_chainsWith_57 rfl (by decide) rfl ?_
          refine x_goto (n := 5) dX10_chainsWith_60 (by decide) ?_
          refine ih (k + 1) _ ?_ (by omega) (by omega)
          first
            | (refine ⟨Nat.or_lt_two_pow hs.1 (Nat.pow_lt_pow_right (by omega) (by omega)), fun c hc => ?_⟩
               rw [Nat.testBit_or, hs.2 c hc, Nat.testBit_two_pow]
               by_cases hcc : vN g (120 + 10 * k + 1) = c
               · have hp : gCW g kd ld c k = true := decide_eq_true ⟨by rw [hc1, hcc], c_25, by rw [zle]; rw [zlt] at c_39; omega⟩
                 rw [decide_eq_true hcc, Bool.or_true, decide_eq_true (by rw [← zct_t hp]; omega)]
               · have hp : gCW g kd ld c k = false := decide_eq_false (by rintro ⟨e, _⟩; rw [hc1] at e; exact hcc ((nI_eq (by omega) (by omega)).mp e))
                 rw [decide_eq_false hcc, Bool.or_false, ← zct_f hp, Nat.add_zero])
            | (refine ⟨hs.1, fun c hc => ?_⟩
               have hp : gCW g kd ld c k = false := decide_eq_false (by rintro ⟨_, e2, e3⟩; first | exact c_25 e2 | (rw [zle] at e3; rw [zlt] at c_39; omega))
               rw [hs.2 c hc, ← zct_f hp, Nat.add_zero])
        · refine x_ild3 (n := 43) dX10_chainsWith_42 rfl ?_
          refine x_ic1 (n := 44) dX10_chainsWith_43 rfl ?_
          refine x_ald0 (n := 45) dX10_chainsWith_44 rfl ?_
          refine x_getR (n := 48) flX10_13 rfl dX10_chainsWith_45 rfl (mK_Ws hM) (mP_allW hM) ?_
          refine x_ild4 (n := 50) dX10_chainsWith_48 rfl ?_
          refine x_aaldN (n := 51) dX10_chainsWith_50 rfl (mA_allW hM) ⟨by decide, by decide⟩ (Nat.le_of_ble_eq_true rfl) (by omega) (mP_W hM (by omega)) ?_
          refine x_getI (n := 54) flX10_55 rfl dX10_chainsWith_51 rfl (mK_W hM (by omega)) ?_
          obtain ⟨hc1, hc2⟩ := w_chain hB (w := k) (by omega)
          rw [cW1 hW (w := k) (by omega), hc1]
          refine x_ishl (n := 55) dX10_chainsWith_54 rfl ?_
          refine x_ior (n := 56) dX10_chainsWith_55 rfl ?_
          rw [zshl (by omega), zor]
          refine x_ist3 (n := 57) dX10_chainsWith_56 rfl (by decide) rfl ?_
          refine x_iincN4 (n := 60) (k := 1) dX10_chainsWith_57 rfl (by decide) rfl ?_
          refine x_goto (n := 5) dX10_chainsWith_60 (by decide) ?_
          refine ih (k + 1) _ ?_ (by omega) (by omega)
          first
            | (refine ⟨Nat.or_lt_two_pow hs.1 (Nat.pow_lt_pow_right (by omega) (by omega)), fun c hc => ?_⟩
               rw [Nat.testBit_or, hs.2 c hc, Nat.testBit_two_pow]
               by_cases hcc : vN g (120 + 10 * k + 1) = c
               · have hp : gCW g kd ld c k = true := decide_eq_true ⟨by rw [hc1, hcc], c_25, by rw [zle]; rw [zlt] at c_39; omega⟩
                 rw [decide_eq_true hcc, Bool.or_true, decide_eq_true (by rw [← zct_t hp]; omega)]
               · have hp : gCW g kd ld c k = false := decide_eq_false (by rintro ⟨e, _⟩; rw [hc1] at e; exact hcc ((nI_eq (by omega) (by omega)).mp e))
                 rw [decide_eq_false hcc, Bool.or_false, ← zct_f hp, Nat.add_zero])
            | (refine ⟨hs.1, fun c hc => ?_⟩
               have hp : gCW g kd ld c k = false := decide_eq_false (by rintro ⟨_, e2, e3⟩; first | exact c_25 e2 | (rw [zle] at e3; rw [zlt] at c_39; omega))
               rw [hs.2 c hc, ← zct_f hp, Nat.add_zero])
theorem c_X10_chainsWith (hM : ShM Z mk) (hW : cmW I mk g) (hB : InvB g) {kd ld : Int32} (hq : ∀ s, cwB g kd ld (vN g 1) s → Q (some (.int (nI s))) Z I) : zM l G mX10_chainsWith 0 0 0 [.ref (mk + 10), .int kd, .int ld] Z I Q := by
  refine x_entry [some (.ref (mk + 10)), some (.int kd), some (.int ld), none, none] 2 rfl rfl (Nat.le_of_ble_eq_true rfl) ?_
  refine x_ic0 (n := 1) dX10_chainsWith_0 rfl ?_
  refine x_ist3 (n := 2) dX10_chainsWith_1 rfl (by decide) rfl ?_
  refine x_ic0 (n := 3) dX10_chainsWith_2 rfl ?_
  refine x_ist4 (n := 5) dX10_chainsWith_3 rfl (by decide) rfl ?_
  refine l_X10_chainsWith hM hW hB hq (vN g 1 + 1) 0 0 ⟨by decide, fun c hc => ?_⟩ (by omega) (by omega)
  rw [Nat.zero_testBit]; exact (decide_eq_false (by show ¬ 0 < 0; omega)).symm
end
