section
variable {l : Launch} {G : zG} {Z : zS} {I : zI} {g : Nat → Int32} {mk : Nat} {Q : Option Value → zS → zI → Prop}
theorem vG0 (h : cmG I mk g) (hB : InvB g) : I (mk + 1) 0 = nI (vN g 0) := h.1.2.trans (iv0 hB).1
theorem cG2 (h : cmG I mk g) {c : Nat} (hc : c < vN g 0) : I (mk + 2) c = g (20 + 4 * c) := (h.2.1 c hc).1
theorem cG3 (h : cmG I mk g) {c : Nat} (hc : c < vN g 0) : I (mk + 3) c = g (21 + 4 * c) := by rw [(h.2.1 c hc).2.1]; congr 1; omega
theorem cG4 (h : cmG I mk g) {c : Nat} (hc : c < vN g 0) : I (mk + 4) c = g (20 + 4 * c + 2) := (h.2.1 c hc).2.2
theorem cG5 (h : cmG I mk g) {k : Nat} (hk : k < 6) : I (mk + 5) k = g (11 + k) := h.2.2.2 k hk
theorem c_X1_has (hM : ShM Z mk) (hG : cmG I mk g) (hB : InvB g) {x : Int32} (hq : Q (some (.int (zb (zin x 0 ((vN g 0 : Int) - 1))))) Z I) : zM l G mX1_has 0 0 0 [.ref (mk + 1), .int x] Z I Q := by
  refine x_entry [some (.ref (mk + 1)), some (.int x)] 0 rfl rfl (Nat.le_of_ble_eq_true rfl) ?_
  have h0 := vG0 hG hB
  have h24 := (iv0 hB).2.2
  refine x_ild1 (n := 1) dX1_has_0 rfl ?_
  refine x_if_lt (n := 4) (tgt := 16) dX1_has_1 rfl (by decide) (fun c_1 => ?_) (fun c_1 => ?_)
  · refine x_ic0 (n := 17) dX1_has_16 rfl ?_
    refine r_zret dX1_has_17 rfl (by first | exact nar0 | exact nar1 | exact zb_nar _) ?_
    (try rw [zle, nI_toInt (by omega)] at c_9)
    (try rw [zlt, Int32.toInt_zero] at c_1)
    cases hb : zin x 0 ((vN g 0 : Int) - 1) <;> rw [hb] at hq <;> unfold zin at hb <;> simp only [decide_eq_true_eq, decide_eq_false_iff_not] at hb <;> first | exact hq | (exfalso; omega)
  · refine x_ild1 (n := 5) dX1_has_4 rfl ?_
    refine x_ald0 (n := 6) dX1_has_5 rfl ?_
    refine x_getI (n := 9) flX1_44 rfl dX1_has_6 rfl (mK_Gr hM) ?_
    rw [h0]
    refine x_icmp_ge (n := 12) (tgt := 16) dX1_has_9 rfl (by decide) (fun c_9 => ?_) (fun c_9 => ?_)
    · refine x_ic0 (n := 17) dX1_has_16 rfl ?_
      refine r_zret dX1_has_17 rfl (by first | exact nar0 | exact nar1 | exact zb_nar _) ?_
      (try rw [zle, nI_toInt (by omega)] at c_9)
      (try rw [zlt, Int32.toInt_zero] at c_1)
      cases hb : zin x 0 ((vN g 0 : Int) - 1) <;> rw [hb] at hq <;> unfold zin at hb <;> simp only [decide_eq_true_eq, decide_eq_false_iff_not] at hb <;> first | exact hq | (exfalso; omega)
    · refine x_ic1 (n := 13) dX1_has_12 rfl ?_
      refine x_goto (n := 17) dX1_has_13 (by decide) ?_
      refine r_zret dX1_has_17 rfl (by first | exact nar0 | exact nar1 | exact zb_nar _) ?_
      (try rw [zle, nI_toInt (by omega)] at c_9)
      (try rw [zlt, Int32.toInt_zero] at c_1)
      cases hb : zin x 0 ((vN g 0 : Int) - 1) <;> rw [hb] at hq <;> unfold zin at hb <;> simp only [decide_eq_true_eq, decide_eq_false_iff_not] at hb <;> first | exact hq | (exfalso; omega)
theorem c_X1_has1 (hM : ShM Z mk) (hG : cmG I mk g) (hB : InvB g) {c : Nat} (hc : c < vN g 0) (hq : Q (some (.int (zb true))) Z I) : zM l G mX1_has 0 0 0 [.ref (mk + 1), .int (nI c)] Z I Q := by
  have h24 := (iv0 hB).2.2
  refine c_X1_has hM hG hB ?_
  rw [show zin (nI c) 0 ((vN g 0 : Int) - 1) = true from decide_eq_true (by rw [nI_toInt (by omega)]; omega)]
  exact hq
theorem c_X1_rowOf (hM : ShM Z mk) {k : Nat} (hk : k < 3) (hq : Q (some (.ref (mk + 2 + k))) Z I) : zM l G mX1_rowOf 0 0 0 [.ref (mk + 1), .int (nI k)] Z I Q := by
  refine x_entry [some (.ref (mk + 1)), some (.int (nI k))] 0 rfl rfl (Nat.le_of_ble_eq_true rfl) ?_
  rcases (by omega : k = 0 ∨ k = 1 ∨ k = 2) with rfl | rfl | rfl
  · skip
    refine x_ild1 (n := 1) dX1_rowOf_0 rfl ?_
    refine x_if_ne (n := 4) (tgt := 9) dX1_rowOf_1 rfl (by decide) (fun c_1 => ?_) (fun c_1 => ?_)
    · exact absurd (by decide) c_1
    · refine x_ald0 (n := 5) dX1_rowOf_4 rfl ?_
      refine x_getR (n := 8) flX1_9 rfl dX1_rowOf_5 rfl (mK_Gr hM) (mP_surface hM) ?_
      refine r_aret dX1_rowOf_8 rfl (by first | exact Or.inl ⟨_, rfl⟩ | exact Or.inr ⟨_, rfl⟩) (by first | exact Or.inl rfl | exact Or.inr ⟨_, rfl⟩) ?_
      exact hq
  · skip
    refine x_ild1 (n := 1) dX1_rowOf_0 rfl ?_
    refine x_if_ne (n := 4) (tgt := 9) dX1_rowOf_1 rfl (by decide) (fun c_1 => ?_) (fun c_1 => ?_)
    · refine x_ild1 (n := 10) dX1_rowOf_9 rfl ?_
      refine x_ic1 (n := 11) dX1_rowOf_10 rfl ?_
      refine x_icmpN_ne (n := 14) (tgt := 21) dX1_rowOf_11 rfl (by decide) (by omega) (by omega) (fun c_11 => ?_) (fun c_11 => ?_)
      · exact absurd rfl c_11
      · refine x_ald0 (n := 15) dX1_rowOf_14 rfl ?_
        refine x_getR (n := 18) flX1_13 rfl dX1_rowOf_15 rfl (mK_Gr hM) (mP_level hM) ?_
        refine x_goto (n := 25) dX1_rowOf_18 (by decide) ?_
        refine r_aret dX1_rowOf_25 rfl (by first | exact Or.inl ⟨_, rfl⟩ | exact Or.inr ⟨_, rfl⟩) (by first | exact Or.inl rfl | exact Or.inr ⟨_, rfl⟩) ?_
        exact hq
    · exact absurd c_1 (by decide)
  · skip
    refine x_ild1 (n := 1) dX1_rowOf_0 rfl ?_
    refine x_if_ne (n := 4) (tgt := 9) dX1_rowOf_1 rfl (by decide) (fun c_1 => ?_) (fun c_1 => ?_)
    · refine x_ild1 (n := 10) dX1_rowOf_9 rfl ?_
      refine x_ic1 (n := 11) dX1_rowOf_10 rfl ?_
      refine x_icmpN_ne (n := 14) (tgt := 21) dX1_rowOf_11 rfl (by decide) (by omega) (by omega) (fun c_11 => ?_) (fun c_11 => ?_)
      · refine x_ald0 (n := 22) dX1_rowOf_21 rfl ?_
        refine x_getR (n := 25) flX1_16 rfl dX1_rowOf_22 rfl (mK_Gr hM) (mP_stratum hM) ?_
        refine r_aret dX1_rowOf_25 rfl (by first | exact Or.inl ⟨_, rfl⟩ | exact Or.inr ⟨_, rfl⟩) (by first | exact Or.inl rfl | exact Or.inr ⟨_, rfl⟩) ?_
        exact hq
      · exact absurd c_11 (by decide)
    · exact absurd c_1 (by decide)
theorem c_X1_stratumOf (hM : ShM Z mk) (hG : cmG I mk g) (hB : InvB g) {c : Nat} (hc : c < vN g 0) (hq : Q (some (.int (g (20 + 4 * c + 2)))) Z I) : zM l G mX1_stratumOf 1 0 0 [.ref (mk + 1), .int (nI c)] Z I Q := by
  refine x_entry [some (.ref (mk + 1)), some (.int (nI c))] 0 rfl rfl (Nat.le_of_ble_eq_true rfl) ?_
  have h24 := (iv0 hB).2.2
  refine x_ald0 (n := 1) dX1_stratumOf_0 rfl ?_
  refine x_ild1 (n := 2) dX1_stratumOf_1 rfl ?_
  refine x_cV1 (n := 5) (d' := 0) zcX1_has mlX1_57 dX1_stratumOf_2 rfl (mK_Gr hM) (Nat.le_of_ble_eq_true rfl) (Nat.le_of_ble_eq_true rfl) ?_
  refine c_X1_has1 hM hG hB hc ?_
  refine x_some ?_
  refine x_if_eq (n := 8) (tgt := 17) dX1_stratumOf_5 rfl (by decide) (fun c_5 => ?_) (fun c_5 => ?_)
  · exact absurd c_5 (by decide)
  · refine x_ald0 (n := 9) dX1_stratumOf_8 rfl ?_
    refine x_getR (n := 12) flX1_16 rfl dX1_stratumOf_9 rfl (mK_Gr hM) (mP_stratum hM) ?_
    refine x_ild1 (n := 13) dX1_stratumOf_12 rfl ?_
    refine x_ialdN (n := 14) dX1_stratumOf_13 rfl (mA_stratum hM) (Nat.le_of_ble_eq_true rfl) (by omega) ?_
    refine x_goto (n := 18) dX1_stratumOf_14 (by decide) ?_
    refine r_iret dX1_stratumOf_18 rfl ?_
    rw [cG4 hG hc]; exact hq
theorem c_X1_depthOf (hM : ShM Z mk) (hG : cmG I mk g) (hB : InvB g) {c : Nat} (hc : c < vN g 0) (hq : Q (some (.int (g (20 + 4 * c) - g (21 + 4 * c)))) Z I) : zM l G mX1_depthOf 1 0 0 [.ref (mk + 1), .int (nI c)] Z I Q := by
  refine x_entry [some (.ref (mk + 1)), some (.int (nI c))] 0 rfl rfl (Nat.le_of_ble_eq_true rfl) ?_
  have h24 := (iv0 hB).2.2
  refine x_ald0 (n := 1) dX1_depthOf_0 rfl ?_
  refine x_ild1 (n := 2) dX1_depthOf_1 rfl ?_
  refine x_cV1 (n := 5) (d' := 0) zcX1_has mlX1_57 dX1_depthOf_2 rfl (mK_Gr hM) (Nat.le_of_ble_eq_true rfl) (Nat.le_of_ble_eq_true rfl) ?_
  refine c_X1_has1 hM hG hB hc ?_
  refine x_some ?_
  refine x_if_eq (n := 8) (tgt := 24) dX1_depthOf_5 rfl (by decide) (fun c_5 => ?_) (fun c_5 => ?_)
  · exact absurd c_5 (by decide)
  · refine x_ald0 (n := 9) dX1_depthOf_8 rfl ?_
    refine x_getR (n := 12) flX1_9 rfl dX1_depthOf_9 rfl (mK_Gr hM) (mP_surface hM) ?_
    refine x_ild1 (n := 13) dX1_depthOf_12 rfl ?_
    refine x_ialdN (n := 14) dX1_depthOf_13 rfl (mA_surface hM) (Nat.le_of_ble_eq_true rfl) (by omega) ?_
    refine x_ald0 (n := 15) dX1_depthOf_14 rfl ?_
    refine x_getR (n := 18) flX1_13 rfl dX1_depthOf_15 rfl (mK_Gr hM) (mP_level hM) ?_
    refine x_ild1 (n := 19) dX1_depthOf_18 rfl ?_
    refine x_ialdN (n := 20) dX1_depthOf_19 rfl (mA_level hM) (Nat.le_of_ble_eq_true rfl) (by omega) ?_
    refine x_isub (n := 21) dX1_depthOf_20 rfl ?_
    refine x_goto (n := 25) dX1_depthOf_21 (by decide) ?_
    refine r_iret dX1_depthOf_25 rfl ?_
    rw [cG2 hG hc, cG3 hG hc]; exact hq
def gDeep (g : Nat → Int32) (c : Nat) : Bool := decide (standsF (vN g (20 + 4 * c + 2)) < g (20 + 4 * c) - g (21 + 4 * c))
theorem stands_t {j : Nat} (hj : j < 4) : (zst_STANDS.2.2.2.getD (nI j).toNatClampNeg 0) = standsF j := by
  rcases (by omega : j = 0 ∨ j = 1 ∨ j = 2 ∨ j = 3) with rfl | rfl | rfl | rfl <;> decide
theorem c_X1_depthThatStands (hM : ShM Z mk) (hG : cmG I mk g) (hB : InvB g) {c : Nat} (hc : c < vN g 0) (hq : Q (some (.int (standsF (vN g (20 + 4 * c + 2))))) Z I) : zM l G mX1_depthThatStands 2 0 0 [.ref (mk + 1), .int (nI c)] Z I Q := by
  refine x_entry [some (.ref (mk + 1)), some (.int (nI c)), none] 1 rfl rfl (Nat.le_of_ble_eq_true rfl) ?_
  have h24 := (iv0 hB).2.2
  have hs := (ivC hB (c := c) (by omega)).2.2.1
  have hs2 := rg_le hs (by omega)
  have es := rg_nI hs (by omega) (by omega)
  have hkI : (nI (vN g (20 + 4 * c + 2))).toInt = (vN g (20 + 4 * c + 2) : Int) := nI_toInt (by omega)
  refine x_ald0 (n := 1) dX1_depthThatStands_0 rfl ?_
  refine x_ild1 (n := 2) dX1_depthThatStands_1 rfl ?_
  refine x_cV1 (n := 5) (d' := 1) zcX1_stratumOf mlX1_68 dX1_depthThatStands_2 rfl (mK_Gr hM) (Nat.le_of_ble_eq_true rfl) (Nat.le_of_ble_eq_true rfl) ?_
  refine c_X1_stratumOf hM hG hB hc ?_
  refine x_some ?_
  rw [es]
  refine x_ist2 (n := 6) dX1_depthThatStands_5 rfl (by decide) rfl ?_
  refine x_ild2 (n := 7) dX1_depthThatStands_6 rfl ?_
  refine x_ic0 (n := 8) dX1_depthThatStands_7 rfl ?_
  refine x_gets (n := 11) (q := zst_STANDS) dX1_depthThatStands_8 rfl (by decide) fsX1_71 ?_
  refine x_tlen (n := 12) (q := zst_STANDS) (v := nI 4) dX1_depthThatStands_11 rfl (by decide) rfl rfl ?_
  refine x_ic1 (n := 13) dX1_depthThatStands_12 rfl ?_
  refine x_isubN (n := 14) dX1_depthThatStands_13 rfl (by omega) ?_
  refine x_cN3 (n := 17) (d' := 0) zcX11_inside mnX1_74 dX1_depthThatStands_14 rfl (Nat.le_of_ble_eq_true rfl) (Nat.le_of_ble_eq_true rfl) ?_
  refine c_X11_inside true (by refine (decide_eq_true ?_).symm; rw [hkI]; exact ⟨by show (0 : Int) ≤ _; omega, by show _ ≤ (3 : Int); omega⟩) ?_
  refine x_some ?_
  refine x_if_eq (n := 20) (tgt := 28) dX1_depthThatStands_17 rfl (by decide) (fun c_17 => ?_) (fun c_17 => ?_)
  · exact absurd c_17 (by decide)
  · refine x_gets (n := 23) (q := zst_STANDS) dX1_depthThatStands_20 rfl (by decide) fsX1_71 ?_
    refine x_ild2 (n := 24) dX1_depthThatStands_23 rfl ?_
    refine x_tald (n := 25) (q := zst_STANDS) dX1_depthThatStands_24 rfl (by decide) rfl (vp_in_nI (N := 4) (by first | decide | omega) (by decide)) ?_
    rw [stands_t (by omega)]
    refine x_goto (n := 30) dX1_depthThatStands_25 (by decide) ?_
    refine r_iret dX1_depthThatStands_30 rfl ?_
    exact hq
theorem l_X1_tooDeep (hM : ShM Z mk) (hG : cmG I mk g) (hB : InvB g) (hq : Q (some (.int (nI (zbs (gDeep g) (vN g 0))))) Z I) : ∀ m k, k ≤ vN g 0 → vN g 0 - k < m → zX l G mX1_tooDeepChains 3 0 0 4 [some (.ref (mk + 1)), some (.int (nI (zbs (gDeep g) k))), some (.int (nI k))] [] Z I Q := by
  intro m
  have h0 := vG0 hG hB
  have h24 := (iv0 hB).2.2
  induction m with
  | zero => intro k _ h; exact absurd h (by omega)
  | succ m ih =>
    intro k hk hm
    refine x_ild2 (n := 5) dX1_tooDeepChains_4 rfl ?_
    refine x_ald0 (n := 6) dX1_tooDeepChains_5 rfl ?_
    refine x_getI (n := 9) flX1_44 rfl dX1_tooDeepChains_6 rfl (mK_Gr hM) ?_
    rw [h0]
    refine x_icmpN_ge (n := 12) (tgt := 37) dX1_tooDeepChains_9 rfl (by decide) (by omega) (by omega) (fun c_9 => ?_) (fun c_9 => ?_)
    · refine x_ild1 (n := 38) dX1_tooDeepChains_37 rfl ?_
      refine r_iret dX1_tooDeepChains_38 rfl ?_
      rw [show k = vN g 0 by omega]; exact hq
    · refine x_ald0 (n := 13) dX1_tooDeepChains_12 rfl ?_
      refine x_ild2 (n := 14) dX1_tooDeepChains_13 rfl ?_
      refine x_cV1 (n := 17) (d' := 1) zcX1_depthOf mlX1_61 dX1_tooDeepChains_14 rfl (mK_Gr hM) (Nat.le_of_ble_eq_true rfl) (Nat.le_of_ble_eq_true rfl) ?_
      refine c_X1_depthOf hM hG hB (by omega) ?_
      refine x_some ?_
      refine x_ald0 (n := 18) dX1_tooDeepChains_17 rfl ?_
      refine x_ild2 (n := 19) dX1_tooDeepChains_18 rfl ?_
      refine x_cV1 (n := 22) (d' := 2) zcX1_depthThatStands mlX1_65 dX1_tooDeepChains_19 rfl (mK_Gr hM) (Nat.le_of_ble_eq_true rfl) (Nat.le_of_ble_eq_true rfl) ?_
      refine c_X1_depthThatStands hM hG hB (by omega) ?_
      refine x_some ?_
      refine x_icmp_le (n := 25) (tgt := 31) dX1_tooDeepChains_22 rfl (by decide) (fun c_22 => ?_) (fun c_22 => ?_)
      · refine x_iincN2 (n := 34) (k := 1) dX1_tooDeepChains_31 rfl (by decide) rfl ?_
        refine x_goto (n := 4) dX1_tooDeepChains_34 (by decide) ?_
        cases hd : gDeep g k
        · have hd2 := of_decide_eq_false hd
          first | (exfalso; simp only [zle, zlt] at *; omega) | (rw [zbs_f hd]; exact ih (k + 1) (by omega) (by omega))
        · have hd2 := of_decide_eq_true hd
          first | (exfalso; simp only [zle, zlt] at *; omega) | (rw [zbs_t hd]; exact ih (k + 1) (by omega) (by omega))
      · refine x_ild1 (n := 26) dX1_tooDeepChains_25 rfl ?_
        refine x_ic1 (n := 27) dX1_tooDeepChains_26 rfl ?_
        refine x_ild2 (n := 28) dX1_tooDeepChains_27 rfl ?_
        refine x_ishl (n := 29) dX1_tooDeepChains_28 rfl ?_
        refine x_ior (n := 30) dX1_tooDeepChains_29 rfl ?_
        rw [zshl (by omega), zor]
        refine x_ist1 (n := 31) dX1_tooDeepChains_30 rfl (by decide) rfl ?_
        refine x_iincN2 (n := 34) (k := 1) dX1_tooDeepChains_31 rfl (by decide) rfl ?_
        refine x_goto (n := 4) dX1_tooDeepChains_34 (by decide) ?_
        cases hd : gDeep g k
        · have hd2 := of_decide_eq_false hd
          first | (exfalso; simp only [zle, zlt] at *; omega) | (rw [zbs_f hd]; exact ih (k + 1) (by omega) (by omega))
        · have hd2 := of_decide_eq_true hd
          first | (exfalso; simp only [zle, zlt] at *; omega) | (rw [zbs_t hd]; exact ih (k + 1) (by omega) (by omega))
theorem c_X1_tooDeepChains (hM : ShM Z mk) (hG : cmG I mk g) (hB : InvB g) (hq : Q (some (.int (nI (zbs (gDeep g) (vN g 0))))) Z I) : zM l G mX1_tooDeepChains 3 0 0 [.ref (mk + 1)] Z I Q := by
  refine x_entry [some (.ref (mk + 1)), none, none] 2 rfl rfl (Nat.le_of_ble_eq_true rfl) ?_
  refine x_ic0 (n := 1) dX1_tooDeepChains_0 rfl ?_
  refine x_ist1 (n := 2) dX1_tooDeepChains_1 rfl (by decide) rfl ?_
  refine x_ic0 (n := 3) dX1_tooDeepChains_2 rfl ?_
  refine x_ist2 (n := 4) dX1_tooDeepChains_3 rfl (by decide) rfl ?_
  exact l_X1_tooDeep hM hG hB hq (vN g 0 + 1) 0 (by omega) (by omega)
theorem c_X1_isSoaked (hM : ShM Z mk) (hG : cmG I mk g) (hB : InvB g) {c : Nat} {w : Int32} (hc : c < vN g 0) (hq : Q (some (.int (zb (decide ((if g (20 + 4 * c + 2) = nI 2 then nI 4 else nI 6) < w))))) Z I) : zM l G mX1_isSoaked 2 0 0 [.ref (mk + 1), .int (nI c), .int w] Z I Q := by
  refine x_entry [some (.ref (mk + 1)), some (.int (nI c)), some (.int w)] 0 rfl rfl (Nat.le_of_ble_eq_true rfl) ?_
  refine x_ild2 (n := 1) dX1_isSoaked_0 rfl ?_
  refine x_ald0 (n := 2) dX1_isSoaked_1 rfl ?_
  refine x_ild1 (n := 3) dX1_isSoaked_2 rfl ?_
  refine x_cV1 (n := 6) (d' := 1) zcX1_stratumOf mlX1_68 dX1_isSoaked_3 rfl (mK_Gr hM) (Nat.le_of_ble_eq_true rfl) (Nat.le_of_ble_eq_true rfl) ?_
  refine c_X1_stratumOf hM hG hB hc ?_
  refine x_some ?_
  refine x_ic2 (n := 7) dX1_isSoaked_6 rfl ?_
  refine x_icmp_ne (n := 10) (tgt := 14) dX1_isSoaked_7 rfl (by decide) (fun c_7 => ?_) (fun c_7 => ?_)
  · refine x_bipush (n := 16) (v := nI 6) dX1_isSoaked_14 rfl (by decide) ?_
    refine x_icmp_le (n := 19) (tgt := 23) dX1_isSoaked_16 rfl (by decide) (fun c_16 => ?_) (fun c_16 => ?_)
    · refine x_ic0 (n := 24) dX1_isSoaked_23 rfl ?_
      refine r_zret dX1_isSoaked_24 rfl (by first | exact nar0 | exact nar1 | exact zb_nar _) ?_
      first | rw [if_pos (by assumption)] at hq | rw [if_neg (by assumption)] at hq
      first | (rw [decide_eq_true (by simp only [zle, zlt] at *; omega)] at hq; exact hq) | (rw [decide_eq_false (by simp only [zle, zlt] at *; omega)] at hq; exact hq)
    · refine x_ic1 (n := 20) dX1_isSoaked_19 rfl ?_
      refine x_goto (n := 24) dX1_isSoaked_20 (by decide) ?_
      refine r_zret dX1_isSoaked_24 rfl (by first | exact nar0 | exact nar1 | exact zb_nar _) ?_
      first | rw [if_pos (by assumption)] at hq | rw [if_neg (by assumption)] at hq
      first | (rw [decide_eq_true (by simp only [zle, zlt] at *; omega)] at hq; exact hq) | (rw [decide_eq_false (by simp only [zle, zlt] at *; omega)] at hq; exact hq)
  · refine x_ic4 (n := 11) dX1_isSoaked_10 rfl ?_
    refine x_goto (n := 16) dX1_isSoaked_11 (by decide) ?_
    refine x_icmp_le (n := 19) (tgt := 23) dX1_isSoaked_16 rfl (by decide) (fun c_16 => ?_) (fun c_16 => ?_)
    · refine x_ic0 (n := 24) dX1_isSoaked_23 rfl ?_
      refine r_zret dX1_isSoaked_24 rfl (by first | exact nar0 | exact nar1 | exact zb_nar _) ?_
      first | rw [if_pos (by assumption)] at hq | rw [if_neg (by assumption)] at hq
      first | (rw [decide_eq_true (by simp only [zle, zlt] at *; omega)] at hq; exact hq) | (rw [decide_eq_false (by simp only [zle, zlt] at *; omega)] at hq; exact hq)
    · refine x_ic1 (n := 20) dX1_isSoaked_19 rfl ?_
      refine x_goto (n := 24) dX1_isSoaked_20 (by decide) ?_
      refine r_zret dX1_isSoaked_24 rfl (by first | exact nar0 | exact nar1 | exact zb_nar _) ?_
      first | rw [if_pos (by assumption)] at hq | rw [if_neg (by assumption)] at hq
      first | (rw [decide_eq_true (by simp only [zle, zlt] at *; omega)] at hq; exact hq) | (rw [decide_eq_false (by simp only [zle, zlt] at *; omega)] at hq; exact hq)
theorem l_X1_steep (hM : ShM Z mk) (hG : cmG I mk g) (hB : InvB g) (hq : Q (some (.int (f_steep g))) Z I) : ∀ m k, k + 1 ≤ vN g 0 → vN g 0 - k < m → zX l G mX1_steepPairs 1 0 0 4 [some (.ref (mk + 1)), some (.int (nI (zct (g_steep g) k))), some (.int (nI (k + 1)))] [] Z I Q := by
  intro m
  have h0 := vG0 hG hB
  have h24 := (iv0 hB).2.2
  induction m with
  | zero => intro k _ h; exact absurd h (by omega)
  | succ m ih =>
    intro k hk hm
    refine x_ild2 (n := 5) dX1_steepPairs_4 rfl ?_
    refine x_ald0 (n := 6) dX1_steepPairs_5 rfl ?_
    refine x_getI (n := 9) flX1_44 rfl dX1_steepPairs_6 rfl (mK_Gr hM) ?_
    rw [h0]
    refine x_icmpN_ge (n := 12) (tgt := 48) dX1_steepPairs_9 rfl (by decide) (by omega) (by omega) (fun c_9 => ?_) (fun c_9 => ?_)
    · refine x_ild1 (n := 49) dX1_steepPairs_48 rfl ?_
      refine r_iret dX1_steepPairs_49 rfl ?_
      rw [show k = vN g 0 - 1 by omega]; exact hq
    · refine x_ald0 (n := 13) dX1_steepPairs_12 rfl ?_
      refine x_getR (n := 16) flX1_13 rfl dX1_steepPairs_13 rfl (mK_Gr hM) (mP_level hM) ?_
      refine x_ild2 (n := 17) dX1_steepPairs_16 rfl ?_
      refine x_ialdN (n := 18) dX1_steepPairs_17 rfl (mA_level hM) (Nat.le_of_ble_eq_true rfl) (by omega) ?_
      refine x_ald0 (n := 19) dX1_steepPairs_18 rfl ?_
      refine x_getR (n := 22) flX1_13 rfl dX1_steepPairs_19 rfl (mK_Gr hM) (mP_level hM) ?_
      refine x_ild2 (n := 23) dX1_steepPairs_22 rfl ?_
      refine x_ic1 (n := 24) dX1_steepPairs_23 rfl ?_
      refine x_isubN (n := 25) dX1_steepPairs_24 rfl (by omega) ?_
      rw [Nat.add_sub_cancel]
      refine x_ialdN (n := 26) dX1_steepPairs_25 rfl (mA_level hM) (Nat.le_of_ble_eq_true rfl) (by omega) ?_
      rw [cG3 hG (c := k + 1) (by omega), cG3 hG (c := k) (by omega)]
      refine x_isub (n := 27) dX1_steepPairs_26 rfl ?_
      refine x_mabs (n := 30) dX1_steepPairs_27 rfl mlX1_78 zu_abs zi_J9 zv_abs (by decide) (Nat.le_of_ble_eq_true rfl) ?_
      refine x_ald0 (n := 31) dX1_steepPairs_30 rfl ?_
      refine x_getR (n := 34) flX1_19 rfl dX1_steepPairs_31 rfl (mK_Gr hM) (mP_ruleRow hM) ?_
      refine x_ic0 (n := 35) dX1_steepPairs_34 rfl ?_
      refine x_ialdN (n := 36) dX1_steepPairs_35 rfl (mA_ruleRow hM) (Nat.le_of_ble_eq_true rfl) (by omega) ?_
      rw [show I (mk + 5) 0 = g 11 from cG5 hG (k := 0) (by omega)]
      refine x_icmp_le (n := 39) (tgt := 42) dX1_steepPairs_36 rfl (by decide) (fun c_36 => ?_) (fun c_36 => ?_)
      · refine x_iincN2 (n := 45) (k := 1) dX1_steepPairs_42 rfl (by decide) rfl ?_
        refine x_goto (n := 4) dX1_steepPairs_45 (by decide) ?_
        rw [show 21 + 4 * (k + 1) = 25 + 4 * k by omega] at c_36
        have hab : (if 0 ≤ g (25 + 4 * k) - g (21 + 4 * k) then g (25 + 4 * k) - g (21 + 4 * k) else 0 - (g (25 + 4 * k) - g (21 + 4 * k))).toInt = (if (g (25 + 4 * k) - g (21 + 4 * k)).toInt < 0 then (-(g (25 + 4 * k) - g (21 + 4 * k))).toInt else (g (25 + 4 * k) - g (21 + 4 * k)).toInt) := by
          by_cases hz : 0 ≤ g (25 + 4 * k) - g (21 + 4 * k)
          · rw [if_pos hz, if_neg (by rw [zle, Int32.toInt_zero] at hz; omega)]
          · rw [if_neg hz, if_pos (by rw [zle, Int32.toInt_zero] at hz; omega), Int32.zero_sub]
        rw [zle, hab] at c_36
        cases hd : g_steep g k
        · have hd2 := of_decide_eq_false hd
          have hf := zct_f hd
          rw [Nat.add_zero] at hf
          first | (exfalso; omega) | (rw [hf]; exact ih (k + 1) (by omega) (by omega))
        · have hd2 := of_decide_eq_true hd
          first | (exfalso; omega) | (rw [zct_t hd]; exact ih (k + 1) (by omega) (by omega))
      · refine x_iincN1 (n := 42) (k := 1) dX1_steepPairs_39 rfl (by decide) rfl ?_
        refine x_iincN2 (n := 45) (k := 1) dX1_steepPairs_42 rfl (by decide) rfl ?_
        refine x_goto (n := 4) dX1_steepPairs_45 (by decide) ?_
        rw [show 21 + 4 * (k + 1) = 25 + 4 * k by omega] at c_36
        have hab : (if 0 ≤ g (25 + 4 * k) - g (21 + 4 * k) then g (25 + 4 * k) - g (21 + 4 * k) else 0 - (g (25 + 4 * k) - g (21 + 4 * k))).toInt = (if (g (25 + 4 * k) - g (21 + 4 * k)).toInt < 0 then (-(g (25 + 4 * k) - g (21 + 4 * k))).toInt else (g (25 + 4 * k) - g (21 + 4 * k)).toInt) := by
          by_cases hz : 0 ≤ g (25 + 4 * k) - g (21 + 4 * k)
          · rw [if_pos hz, if_neg (by rw [zle, Int32.toInt_zero] at hz; omega)]
          · rw [if_neg hz, if_pos (by rw [zle, Int32.toInt_zero] at hz; omega), Int32.zero_sub]
        rw [zle, hab] at c_36
        cases hd : g_steep g k
        · have hd2 := of_decide_eq_false hd
          have hf := zct_f hd
          rw [Nat.add_zero] at hf
          first | (exfalso; omega) | (rw [hf]; exact ih (k + 1) (by omega) (by omega))
        · have hd2 := of_decide_eq_true hd
          first | (exfalso; omega) | (rw [zct_t hd]; exact ih (k + 1) (by omega) (by omega))
theorem c_X1_steepPairs (hM : ShM Z mk) (hG : cmG I mk g) (hB : InvB g) (hq : Q (some (.int (f_steep g))) Z I) : zM l G mX1_steepPairs 1 0 0 [.ref (mk + 1)] Z I Q := by
  refine x_entry [some (.ref (mk + 1)), none, none] 2 rfl rfl (Nat.le_of_ble_eq_true rfl) ?_
  have h2 := (iv0 hB).2.1
  refine x_ic0 (n := 1) dX1_steepPairs_0 rfl ?_
  refine x_ist1 (n := 2) dX1_steepPairs_1 rfl (by decide) rfl ?_
  refine x_ic1 (n := 3) dX1_steepPairs_2 rfl ?_
  refine x_ist2 (n := 4) dX1_steepPairs_3 rfl (by decide) rfl ?_
  exact l_X1_steep hM hG hB hq (vN g 0 + 1) 0 (by omega) (by omega)
end
