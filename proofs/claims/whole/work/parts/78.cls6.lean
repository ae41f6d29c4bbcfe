section
variable {l : Launch} {G : zG} {Z : zS} {I I' : zI} {g g' : Nat → Int32} {mk b : Nat} {Q : Option Value → zS → zI → Prop}
theorem gNew_n {k c y : Int32} (h : vN g 1 < 24) : vN (gNew g k c y) 1 = vN g 1 + 1 := by
  unfold vN
  rw [gNew_1, nI_toInt (by omega)]
  rfl
theorem gNew_zct {p p' : Nat → Bool} {n : Nat} (h : ∀ w, w < n → p' w = p w) (hn : p' n = false) : zct p' (n + 1) = zct p n := by
  show zct p' n + _ = _
  rw [if_neg (by rw [hn]; decide), zct_cong h]; rfl
theorem slps (hB : InvB g) : ∀ k, k ≤ vN g 0 → InvB (zit gSlip g k) ∧ (∀ i, i ≠ 1 → i < 120 ∨ 360 ≤ i → zit gSlip g k i = g i) ∧ ∀ c, k ≤ c → c < 24 → zct (gBegun (zit gSlip g k) c) (vN (zit gSlip g k) 1) = zct (gBegun g c) (vN g 1) ∧ zct (g_at (zit gSlip g k) (nI c) (nI 5)) (vN (zit gSlip g k) 1) = zct (g_at g (nI c) (nI 5)) (vN g 1)
  | 0, _ => ⟨hB, fun _ _ _ => rfl, fun _ _ _ => ⟨rfl, rfl⟩⟩
  | k + 1, hk => by
    obtain ⟨h1, h2, h3⟩ := slps hB k (by omega)
    have e0 : vN (zit gSlip g k) 0 = vN g 0 := vN_eq (h2 0 (by omega) (by omega))
    have h24 := (iv0 hB).2.2
    refine ⟨gSlip_inv h1 (by omega), fun i i1 i2 => (gSlip_off i1 i2).trans (h2 i i1 i2), fun c c1 c2 => ?_⟩
    show zct (gBegun (gSlip (zit gSlip g k) k) c) (vN (gSlip (zit gSlip g k) k) 1) = _ ∧ zct (g_at (gSlip (zit gSlip g k) k) (nI c) (nI 5)) (vN (gSlip (zit gSlip g k) k) 1) = _
    have h3c := h3 c (by omega) c2
    generalize zit gSlip g k = u at h1 h2 h3 e0 h3c
    unfold gSlip
    split
    · rename_i hcond
      have hn := hcond.2.2.2
      rw [gNew_n hn, ← h3c.1, ← h3c.2]
      have hkc : nI k ≠ nI c := fun e => by have := (nI_eq (by omega) (by omega)).mp e; omega
      have z1 : gNew u (nI 5) (nI k) (u (20 + 4 * k) - u (21 + 4 * k)) (120 + 10 * vN u 1 + 1) = nI k := by rw [gNew_at (by omega)]; rfl
      constructor
      · refine gNew_zct (fun w hw => ?_) ?_
        · unfold gBegun
          rw [gNew_off (by omega) (by omega), gNew_off (by omega) (by omega), gNew_off (by omega) (by omega)]
        · unfold gBegun
          rw [z1]
          exact decide_eq_false (fun h => hkc h.1)
      · refine gNew_zct (fun w hw => ?_) ?_
        · unfold g_at
          rw [gNew_off (by omega) (by omega), gNew_off (by omega) (by omega)]
        · unfold g_at
          rw [z1]
          exact decide_eq_false (fun h => hkc h.1)
    · exact h3c
theorem cw11 (c : Nat) (n : Nat) : zct (gCW g (nI 1) (nI 1) c) n = zct (gBegun g c) n := by
  refine zct_cong (fun w _ => ?_)
  unfold gCW gBegun
  have e : nI 1 ≤ g (120 + 10 * w + 3) ↔ 0 < g (120 + 10 * w + 3) := by
    rw [zle, zlt, Int32.toInt_zero, show (nI 1).toInt = 1 by decide]; omega
  simp only [e]
theorem cw50 (hB : InvB g) {kd : Nat} (hkd : kd < 100) (c : Nat) {n : Nat} (hn : n ≤ vN g 1) : zct (gCW g (nI kd) (nI 0) c) n = zct (g_at g (nI c) (nI kd)) n := by
  refine zct_cong (fun w hw => ?_)
  unfold gCW g_at
  have hd := (ivW hB (w := w) (by omega)).2.2.2.1.1
  have e1 : nI 0 ≤ g (120 + 10 * w + 3) := by rw [zle, show (nI 0).toInt = 0 by decide]; exact hd
  have e2 : ¬ nI kd < 0 := by rw [zlt, nI_toInt (by omega), Int32.toInt_zero]; omega
  congr 1
  exact propext ⟨fun ⟨a, b, _⟩ => ⟨a, Or.inr b⟩, fun ⟨a, b⟩ => ⟨a, b.resolve_left e2, e1⟩⟩
theorem l_X10_slips (hM : ShM Z mk) (hB : InvB g) (hm : mk < 200) {s : Nat} (hs : s < 2 ^ 24) (hb : ∀ c, c < vN g 0 → s.testBit c = (decide (0 < zct (gBegun g c) (vN g 1)) && gSlips g c)) (hq : ∀ I', offM mk I I' → CM Z I' mk (zit gSlip g (vN g 0)) → Q none Z I') : ∀ m k I1, offM mk I I1 → CM Z I1 mk (zit gSlip g k) → k ≤ vN g 0 → vN g 0 - k < m → zX l G mX10_slipWhereSteep 4 0 0 24 [some (.ref (mk + 10)), some (.ref (mk + 1)), some (.int (gWet g (vN g 8))), some (.int (nI s)), some (.int (nI k))] [] Z I1 Q := by
  intro m
  induction m with
  | zero => intro k I1 _ _ _ h; exact absurd h (by omega)
  | succ m ih =>
    intro k I1 hO hC hk hmm
    obtain ⟨hB1, hoff, hz⟩ := slps hB k hk
    have h24 := (iv0 hB).2.2
    have e0 : vN (zit gSlip g k) 0 = vN g 0 := vN_eq (hoff 0 (by omega) (by omega))
    have h0 := vG0 hC.1 hB1
    rw [e0] at h0
    have next : ∀ I2, offM mk I I2 → CM Z I2 mk (gSlip (zit gSlip g k) k) → k < vN g 0 → zX l G mX10_slipWhereSteep 4 0 0 66 [some (.ref (mk + 10)), some (.ref (mk + 1)), some (.int (gWet g (vN g 8))), some (.int (nI s)), some (.int (nI k))] [] Z I2 Q := by
      intro I2 hO2 hC2 hk2
      refine x_iincN4 (n := 69) (k := 1) dX10_slipWhereSteep_66 rfl (by decide) rfl ?_
      refine x_goto (n := 24) dX10_slipWhereSteep_69 (by decide) ?_
      exact ih (k + 1) I2 hO2 hC2 (by omega) (by omega)
    by_cases hkn : k = vN g 0
    · skip
      refine x_ild4 (n := 26) dX10_slipWhereSteep_24 rfl ?_
      refine x_ald1 (n := 27) dX10_slipWhereSteep_26 rfl ?_
      refine x_getI (n := 30) flX10_106 rfl dX10_slipWhereSteep_27 rfl (mK_Gr hM) ?_
      rw [h0]
      refine x_icmpN_ge (n := 33) (tgt := 72) dX10_slipWhereSteep_30 rfl (by decide) (by omega) (by omega) (fun c_30 => ?_) (fun c_30 => ?_)
      · refine r_vret dX10_slipWhereSteep_72 rfl ?_
        rw [hkn] at hC; exact hq I1 hO hC
      · exact absurd hkn (by omega)
    · have hkl : k < vN g 0 := by omega
      have hbk := hb k hkl
      obtain ⟨hz1, hz2⟩ := hz k (by omega) (by omega)
      have hsl : gSlips (zit gSlip g k) k = gSlips g k := by
        unfold gSlips
        rw [hz2, hoff _ (by omega) (by omega), hoff _ (by omega) (by omega), vN_eq (hoff (20 + 4 * k + 2) (by omega) (by omega))]
      have hw8 : gWet (zit gSlip g k) (vN (zit gSlip g k) 8) = gWet g (vN g 8) := by
        unfold gWet
        rw [vN_eq (hoff 8 (by omega) (by omega))]
        split
        · rw [hoff _ (by omega) (by omega)]
        · rfl
      generalize zit gSlip g k = u at hC hB1 hoff hz e0 next hz1 hz2 hsl hw8
      have hif : gSlip u k = if (s.testBit k = true ∧ gSoak u k = true) ∧ vN u 1 < 24 then gNew u (nI 5) (nI k) (u (20 + 4 * k) - u (21 + 4 * k)) else u := by
        unfold gSlip
        rw [hz1, hsl]
        by_cases hc : 0 < zct (gBegun g k) (vN g 1) ∧ gSoak u k = true ∧ gSlips g k = true ∧ vN u 1 < 24
        · rw [if_pos hc, if_pos ⟨⟨by rw [hbk, decide_eq_true hc.1, hc.2.2.1]; rfl, hc.2.1⟩, hc.2.2.2⟩]
        · rw [if_neg hc, if_neg (by
            rintro ⟨⟨h1, h2⟩, h3⟩
            rw [hbk, Bool.and_eq_true, decide_eq_true_eq] at h1
            exact hc ⟨h1.1, h2, h1.2, h3⟩)]
      rw [hif] at next
      refine x_ild4 (n := 26) dX10_slipWhereSteep_24 rfl ?_
      refine x_ald1 (n := 27) dX10_slipWhereSteep_26 rfl ?_
      refine x_getI (n := 30) flX10_106 rfl dX10_slipWhereSteep_27 rfl (mK_Gr hM) ?_
      rw [h0]
      refine x_icmpN_ge (n := 33) (tgt := 72) dX10_slipWhereSteep_30 rfl (by decide) (by omega) (by omega) (fun c_30 => ?_) (fun c_30 => ?_)
      · exact absurd hkl (by omega)
      · refine x_ild3 (n := 34) dX10_slipWhereSteep_33 rfl ?_
        refine x_ild4 (n := 36) dX10_slipWhereSteep_34 rfl ?_
        refine x_cN2 (n := 39) (d' := 0) zcX11_hasBit mnX10_107 dX10_slipWhereSteep_36 rfl (Nat.le_of_ble_eq_true rfl) (Nat.le_of_ble_eq_true rfl) ?_
        refine c_X11_hasBit (by omega) (by omega) ?_
        refine x_some ?_
        refine x_zif_eq (n := 42) (tgt := 66) dX10_slipWhereSteep_39 rfl (by decide) (fun c_39 => ?_) (fun c_39 => ?_)
        · first
            | (rw [if_pos ⟨⟨c_39, hsk⟩, by have := (iv1 hB1).2; omega⟩] at next; exact next I2 (offM_trans hO hO2) hC2 hkl)
            | (have hcb : s.testBit k = false := c_39; rw [if_neg (by rintro ⟨⟨h1, _⟩, _⟩; rw [hcb] at h1; cases h1)] at next; exact next I1 hO hC hkl)
            | (have hsk : gSoak u k = false := (by unfold gSoak; rw [hw8]; exact c_49)
               rw [if_neg (by rintro ⟨⟨_, h1⟩, _⟩; rw [hsk] at h1; cases h1)] at next; exact next I1 hO hC hkl)
        · refine x_ald1 (n := 43) dX10_slipWhereSteep_42 rfl ?_
          refine x_ild4 (n := 45) dX10_slipWhereSteep_43 rfl ?_
          refine x_ild2 (n := 46) dX10_slipWhereSteep_45 rfl ?_
          refine x_cV2 (n := 49) (d' := 2) zcX1_isSoaked mlX10_111 dX10_slipWhereSteep_46 rfl (mK_Gr hM) (Nat.le_of_ble_eq_true rfl) (Nat.le_of_ble_eq_true rfl) ?_
          refine c_X1_isSoaked hM hC.1 hB1 (by omega) ?_
          refine x_some ?_
          refine x_zif_eq (n := 52) (tgt := 66) dX10_slipWhereSteep_49 rfl (by decide) (fun c_49 => ?_) (fun c_49 => ?_)
          · first
              | (rw [if_pos ⟨⟨c_39, hsk⟩, by have := (iv1 hB1).2; omega⟩] at next; exact next I2 (offM_trans hO hO2) hC2 hkl)
              | (have hcb : s.testBit k = false := c_39; rw [if_neg (by rintro ⟨⟨h1, _⟩, _⟩; rw [hcb] at h1; cases h1)] at next; exact next I1 hO hC hkl)
              | (have hsk : gSoak u k = false := (by unfold gSoak; rw [hw8]; exact c_49)
                 rw [if_neg (by rintro ⟨⟨_, h1⟩, _⟩; rw [hsk] at h1; cases h1)] at next; exact next I1 hO hC hkl)
          · refine x_ald0 (n := 53) dX10_slipWhereSteep_52 rfl ?_
            refine x_ic5 (n := 54) dX10_slipWhereSteep_53 rfl ?_
            refine x_ild4 (n := 56) dX10_slipWhereSteep_54 rfl ?_
            refine x_ald1 (n := 57) dX10_slipWhereSteep_56 rfl ?_
            refine x_ild4 (n := 59) dX10_slipWhereSteep_57 rfl ?_
            refine x_cV1 (n := 62) (d' := 1) zcX1_depthOf mlX10_114 dX10_slipWhereSteep_59 rfl (mK_Gr hM) (Nat.le_of_ble_eq_true rfl) (Nat.le_of_ble_eq_true rfl) ?_
            refine c_X1_depthOf hM hC.1 hB1 (by omega) ?_
            refine x_some ?_
            rw [← hw8] at c_49
            have hsk : gSoak u k = true := c_49
            by_cases hfu : vN u 1 = 24
            · refine x_cV3 (n := 65) (d' := 1) zcX10_addWork mlX10_117 dX10_slipWhereSteep_62 rfl (mK_Ws hM) (Nat.le_of_ble_eq_true rfl) (Nat.le_of_ble_eq_true rfl) ?_
              refine c_X10_addWorkF hM hC hB1 hfu ?_
              refine x_some ?_
              refine x_pop (n := 66) dX10_slipWhereSteep_65 rfl rfl ?_
              rw [if_neg (by omega)] at next
              exact next I1 hO hC hkl
            refine x_cV3 (n := 65) (d' := 1) zcX10_addWork mlX10_117 dX10_slipWhereSteep_62 rfl (mK_Ws hM) (Nat.le_of_ble_eq_true rfl) (Nat.le_of_ble_eq_true rfl) ?_
            refine c_X10_addWork hM hC hB1 hm (by have := (iv1 hB1).2; omega) (fun I2 hO2 hC2 => ?_)
            refine x_some ?_
            refine x_pop (n := 66) dX10_slipWhereSteep_65 rfl rfl ?_
            first
              | (rw [if_pos ⟨⟨c_39, hsk⟩, by have := (iv1 hB1).2; omega⟩] at next; exact next I2 (offM_trans hO hO2) hC2 hkl)
              | (have hcb : s.testBit k = false := c_39; rw [if_neg (by rintro ⟨⟨h1, _⟩, _⟩; rw [hcb] at h1; cases h1)] at next; exact next I1 hO hC hkl)
              | (have hsk : gSoak u k = false := (by unfold gSoak; rw [hw8]; exact c_49)
                 rw [if_neg (by rintro ⟨⟨_, h1⟩, _⟩; rw [hsk] at h1; cases h1)] at next; exact next I1 hO hC hkl)
theorem c_X10_slipWhereSteep (hM : ShM Z mk) (hC : CM Z I mk g) (hB : InvB g) (hm : mk < 200) (hq : ∀ I', offM mk I I' → CM Z I' mk (zit gSlip g (vN g 0)) → Q none Z I') : zM l G mX10_slipWhereSteep 4 0 0 [.ref (mk + 10), .ref (mk + 1), .int (gWet g (vN g 8))] Z I Q := by
  refine x_entry [some (.ref (mk + 10)), some (.ref (mk + 1)), some (.int (gWet g (vN g 8))), none, none] 2 rfl rfl (Nat.le_of_ble_eq_true rfl) ?_
  have h24 := (iv0 hB).2.2
  refine x_ald0 (n := 1) dX10_slipWhereSteep_0 rfl ?_
  refine x_ic1 (n := 2) dX10_slipWhereSteep_1 rfl ?_
  refine x_ic1 (n := 3) dX10_slipWhereSteep_2 rfl ?_
  refine x_cV2 (n := 6) (d' := 0) zcX10_chainsWith mlX10_100 dX10_slipWhereSteep_3 rfl (mK_Ws hM) (Nat.le_of_ble_eq_true rfl) (Nat.le_of_ble_eq_true rfl) ?_
  refine c_X10_chainsWith hM hC.2.1 hB (fun s1 hs1 => ?_)
  refine x_some ?_
  refine x_ald0 (n := 7) dX10_slipWhereSteep_6 rfl ?_
  refine x_ic5 (n := 8) dX10_slipWhereSteep_7 rfl ?_
  refine x_ic0 (n := 9) dX10_slipWhereSteep_8 rfl ?_
  refine x_cV2 (n := 12) (d' := 0) zcX10_chainsWith mlX10_100 dX10_slipWhereSteep_9 rfl (mK_Ws hM) (Nat.le_of_ble_eq_true rfl) (Nat.le_of_ble_eq_true rfl) ?_
  refine c_X10_chainsWith hM hC.2.1 hB (fun s2 hs2 => ?_)
  refine x_some ?_
  refine x_icm1 (n := 13) dX10_slipWhereSteep_12 rfl ?_
  refine x_ixor (n := 14) dX10_slipWhereSteep_13 rfl ?_
  refine x_iand (n := 15) dX10_slipWhereSteep_14 rfl ?_
  rw [zandn]
  refine x_ald1 (n := 16) dX10_slipWhereSteep_15 rfl ?_
  refine x_cV0 (n := 19) (d' := 3) zcX1_tooDeepChains mlX10_103 dX10_slipWhereSteep_16 rfl (mK_Gr hM) (Nat.le_of_ble_eq_true rfl) (Nat.le_of_ble_eq_true rfl) ?_
  refine c_X1_tooDeepChains hM hC.1 hB ?_
  refine x_some ?_
  refine x_iand (n := 20) dX10_slipWhereSteep_19 rfl ?_
  rw [zand]
  refine x_ist3 (n := 21) dX10_slipWhereSteep_20 rfl (by decide) rfl ?_
  refine x_ic0 (n := 22) dX10_slipWhereSteep_21 rfl ?_
  refine x_ist4 (n := 24) dX10_slipWhereSteep_22 rfl (by decide) rfl ?_
  refine l_X10_slips hM hB hm (Nat.lt_of_le_of_lt Nat.and_le_left (zandn_lt hs1.1)) (fun c hc => ?_) hq (vN g 0 + 1) 0 I offM_refl hC (by omega) (by omega)
  rw [Nat.testBit_and, zandn_bit, zbs_bit, hs1.2 c (by omega), hs2.2 c (by omega), cw11, cw50 hB (by omega) c (Nat.le_refl _), decide_eq_true hc]
  unfold gSlips gDeep
  have e : (!decide (0 < zct (g_at g (nI c) (nI 5)) (vN g 1))) = decide (zct (g_at g (nI c) (nI 5)) (vN g 1) = 0) := by
    by_cases h : zct (g_at g (nI c) (nI 5)) (vN g 1) = 0
    · rw [h]; rfl
    · rw [decide_eq_false h, decide_eq_true (by omega)]; rfl
  rw [e, Bool.true_and]
  cases decide (0 < zct (gBegun g c) (vN g 1)) <;> cases decide (zct (g_at g (nI c) (nI 5)) (vN g 1) = 0) <;> simp
theorem c_X2_wetOn (hM : ShM Z mk) (hD : cmD I mk g) {d : Nat} (hd : d < 3000) (hq : Q (some (.int (gWet g d))) Z I) : zM l G mX2_wetOn 1 0 0 [.ref mk, .int (nI d)] Z I Q := by
  refine x_entry [some (.ref mk), some (.int (nI d))] 0 rfl rfl (Nat.le_of_ble_eq_true rfl) ?_
  have hdI : (nI d).toInt = (d : Int) := nI_toInt (by omega)
  unfold gWet at hq
  refine x_ild1 (n := 1) dX2_wetOn_0 rfl ?_
  refine x_ic0 (n := 2) dX2_wetOn_1 rfl ?_
  refine x_sipush (n := 5) (v := nI 1999) dX2_wetOn_2 rfl (by decide) ?_
  refine x_cN3 (n := 8) (d' := 0) zcX11_inside mnX2_86 dX2_wetOn_5 rfl (Nat.le_of_ble_eq_true rfl) (Nat.le_of_ble_eq_true rfl) ?_
  refine c_X11_inside (decide (d ≤ 1999)) (by rw [hdI]; congr 1; exact propext ⟨fun h => ⟨by show (0 : Int) ≤ _; omega, by show _ ≤ (1999 : Int); omega⟩, fun h => by have h2 : (d : Int) ≤ 1999 := h.2; omega⟩) ?_
  refine x_some ?_
  refine x_zif_eq (n := 11) (tgt := 20) dX2_wetOn_8 rfl (by decide) (fun c_8 => ?_) (fun c_8 => ?_)
  · refine x_ic0 (n := 21) dX2_wetOn_20 rfl ?_
    refine r_iret dX2_wetOn_21 rfl ?_
    first | (rw [if_neg (of_decide_eq_false c_8)] at hq; exact hq) | (rw [if_pos hd2] at hq; rw [hD.2 d (by omega)]; exact hq)
  · have hd2 := of_decide_eq_true c_8
    refine x_ald0 (n := 12) dX2_wetOn_11 rfl ?_
    refine x_getR (n := 15) flX2_53 rfl dX2_wetOn_12 rfl (mK_M hM) (mP_wetness hM) ?_
    refine x_ild1 (n := 16) dX2_wetOn_15 rfl ?_
    refine x_ialdN (n := 17) dX2_wetOn_16 rfl (mA_wetness hM) (Nat.le_of_ble_eq_true rfl) (by omega) ?_
    refine x_goto (n := 21) dX2_wetOn_17 (by decide) ?_
    refine r_iret dX2_wetOn_21 rfl ?_
    first | (rw [if_neg (of_decide_eq_false c_8)] at hq; exact hq) | (rw [if_pos hd2] at hq; rw [hD.2 d (by omega)]; exact hq)
end
