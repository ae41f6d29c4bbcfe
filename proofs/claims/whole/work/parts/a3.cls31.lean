theorem cl_step (fb p : Nat) : cl fb 1 (p + 1) = cl fb 1 p ∨ cl fb 1 (p + 1) = cl fb 1 p + 1 := by
  unfold cl
  split
  · split
    · omega
    · split <;> omega
  · split
    · split
      · omega
      · split <;> omega
    · split
      · omega
      · split <;> omega
section
variable {l : Launch} {G : zG} {Z Z' : zS} {I I' : zI} {g g' : Nat → Int32} {mk mk2 m b : Nat} {Q : Option Value → zS → zI → Prop}
theorem dep_b (hB : InvB g) {c : Nat} (hc : c < vN g 0) : -99 ≤ gDep g c ∧ gDep g c ≤ 99 := by
  obtain ⟨q1, q2, -, -⟩ := ivC hB hc
  have l1 := rg_le q1 (by omega)
  have l2 := rg_le q2 (by omega)
  unfold gDep; omega
theorem costZ_t (c p : Nat) : costZ g true c p = gDep g c * ((p : Int) - (vN g 15 : Int)) := by unfold costZ; rw [if_pos rfl]
theorem lp_sl (hB : InvB g) {P : Nat} (hP : 1 ≤ P) (hP2 : P ≤ 199) : ∀ c, c < vN g 0 → (∀ j, j + 1 < P → -((99 * (c + 1) : Nat) : Int) ≤ lpF (costZ g true) P c (j + 1) - lpF (costZ g true) P c j ∧ lpF (costZ g true) P c (j + 1) - lpF (costZ g true) P c j ≤ ((99 * (c + 1) : Nat) : Int)) ∧ ∀ p, p < P → -(20000 * ((c : Int) + 1)) ≤ lpF (costZ g true) P c p ∧ lpF (costZ g true) P c p ≤ 20000 * ((c : Int) + 1)
  | 0, hc => by
    have hd := dep_b hB hc
    refine ⟨fun j hj => ?_, fun p hp => ?_⟩
    · show _ ≤ costZ g true 0 (j + 1) - costZ g true 0 j ∧ _
      have e : costZ g true 0 (j + 1) = costZ g true 0 j + gDep g 0 := by rw [costZ_t, costZ_t, show ((j + 1 : Nat) : Int) - (vN g 15 : Int) = ((j : Int) - (vN g 15 : Int)) + 1 by omega, Int.mul_add, Int.mul_one]
      show _ ∧ costZ g true 0 (j + 1) - costZ g true 0 j ≤ _
      rw [e]; omega
    · have := costZ_b hB (h := true) (c := 0) (p := p) hc (by omega)
      show _ ≤ costZ g true 0 p ∧ costZ g true 0 p ≤ _
      omega
  | c + 1, hc => by
    obtain ⟨ih1, ih2⟩ := lp_sl hB hP hP2 c (by omega)
    have hcv := lpF_cvx (C := costZ g true) (n := vN g 0) hP (fun c _ => costZ_cvx) c (by omega)
    have hd := dep_b hB hc
    refine ⟨fun j hj => ?_, fun p hp => ?_⟩
    · have e : costZ g true (c + 1) (j + 1) = costZ g true (c + 1) j + gDep g (c + 1) := by rw [costZ_t, costZ_t, show ((j + 1 : Nat) : Int) - (vN g 15 : Int) = ((j : Int) - (vN g 15 : Int)) + 1 by omega, Int.mul_add, Int.mul_one]
      have w1 := wn_cl hcv (show j < P by omega)
      have w2 := wn_cl hcv hj
      have hl := cl_lt (sl := 1) (fb_lt (f := lpF (costZ g true) P c) hP) hj
      show _ ≤ costZ g true (c + 1) (j + 1) + wn (lpF (costZ g true) P c) P (j + 1) - (costZ g true (c + 1) j + wn (lpF (costZ g true) P c) P j) ∧ costZ g true (c + 1) (j + 1) + wn (lpF (costZ g true) P c) P (j + 1) - (costZ g true (c + 1) j + wn (lpF (costZ g true) P c) P j) ≤ _
      rw [e, ← w1, ← w2]
      rcases cl_step (fbF (lpF (costZ g true) P c) P) j with h | h
      · rw [h]; omega
      · rw [h] at hl ⊢
        have := ih1 (cl (fbF (lpF (costZ g true) P c) P) 1 j) hl
        omega
    · have h1 := costZ_b hB (h := true) (c := c + 1) (p := p) hc (by omega)
      have w1 := wn_cl hcv hp
      have hl := cl_lt (sl := 1) (fb_lt (f := lpF (costZ g true) P c) hP) hp
      have := ih2 _ hl
      show _ ≤ costZ g true (c + 1) p + wn (lpF (costZ g true) P c) P p ∧ costZ g true (c + 1) p + wn (lpF (costZ g true) P c) P p ≤ _
      rw [← w1]
      omega
theorem haul_rules (hB : InvB g) : (g 14 = nI (vN g 14) ∧ vN g 14 ≤ 99) ∧ (g 15 = nI (vN g 15) ∧ vN g 15 ≤ 99) := by
  have h1 := rule_n hB (k := 3) (by omega)
  have h2 := rule_n hB (k := 4) (by omega)
  have e1 : (vN g 14 : Int) ≤ 99 := h1.2
  have e2 : (vN g 15 : Int) ≤ 99 := h2.2
  exact ⟨⟨h1.1, by omega⟩, ⟨h2.1, by omega⟩⟩
theorem hl_cj (hB : InvB g) : ∀ c, c < vN g 0 → cj (vN g 15) (vN g 15 + vN g 14 + 1) (lpF (costZ g true) (vN g 15 + vN g 14 + 1) c) (hl g (c + 1))
  | 0, hc => by
    obtain ⟨⟨-, r1⟩, ⟨-, r2⟩⟩ := haul_rules hB
    have hd := dep_b hB hc
    have h := cj_0 (S := vN g 15) (B := vN g 14) (P := vN g 15 + vN g 14 + 1) (d := gDep g 0) rfl r2 r1 hd.1 hd.2
    intro k hk
    obtain ⟨h1, p, hp, h2⟩ := h k hk
    refine ⟨fun q hq => ?_, p, hp, ?_⟩
    · show _ - costZ g true 0 q ≤ _
      rw [costZ_t]; exact h1 q hq
    · show _ - costZ g true 0 p = _
      rw [costZ_t]; exact h2
  | c + 1, hc => by
    obtain ⟨⟨-, r1⟩, ⟨-, r2⟩⟩ := haul_rules hB
    have h24 := (iv0 hB).2
    have hd := dep_b hB hc
    have ih := hl_cj hB c (by omega)
    obtain ⟨s1, s2⟩ := lp_sl hB (P := vN g 15 + vN g 14 + 1) (by omega) (by omega) c (by omega)
    have hcv := lpF_cvx (C := costZ g true) (n := vN g 0) (P := vN g 15 + vN g 14 + 1) (by omega) (fun c _ => costZ_cvx) c (by omega)
    have h := cj_step (S := vN g 15) (B := vN g 14) (P := vN g 15 + vN g 14 + 1) (sb := 99 * (c + 1)) (d := gDep g (c + 1)) rfl r2 r1 hcv s1 (by omega) (fun p hp => by have := s2 p hp; omega) hd.1 hd.2 ih
    intro k hk
    obtain ⟨h1, p, hp, h2⟩ := h k hk
    refine ⟨fun q hq => ?_, p, hp, ?_⟩
    · show _ - (costZ g true (c + 1) q + wn _ _ q) ≤ _
      rw [costZ_t]; exact h1 q hq
    · show _ - (costZ g true (c + 1) p + wn _ _ p) = _
      rw [costZ_t]; exact h2
theorem haul_eq (hB : InvB g) : -(dpF (costZ g true) (vN g 15 + vN g 14 + 1) 1 (vN g 0) (vN g 0 - 1) (fbF (dpF (costZ g true) (vN g 15 + vN g 14 + 1) 1 (vN g 0) (vN g 0 - 1)) (vN g 15 + vN g 14 + 1))) = (hl g (vN g 0) 2400 : Int) := by
  have h24 := (iv0 hB).2
  have h0 := isMn_fb (f := dpF (costZ g true) (vN g 15 + vN g 14 + 1) 1 (vN g 0) (vN g 0 - 1)) (P := vN g 15 + vN g 14 + 1) (by omega)
  obtain ⟨⟨p, hp, hpv⟩, hmin⟩ := lp_end (C := costZ g true) (P := vN g 15 + vN g 14 + 1) (n := vN g 0) (by omega) (by omega) (fun c _ => costZ_cvx) h0
  obtain ⟨h1, q, hq, h2⟩ := hl_cj hB (vN g 0 - 1) (by omega) 2400 (by omega)
  rw [show vN g 0 - 1 + 1 = vN g 0 by omega] at h1 h2
  have h3 := h1 p hp
  have h4 := hmin q hq
  rw [show ((2400 : Nat) : Int) - 2400 = 0 from rfl, Int.mul_zero] at h2 h3
  omega
theorem c_X1_haulCost (hM : ShM Z mk) (hG : cmG I mk g) (hB : InvB g) (hq : ∀ I1, off789 mk I I1 → Q (some (.int (f_haul g))) Z I1) : zM l G mX1_haulCost 4 0 0 [.ref (mk + 1)] Z I Q := by
  refine x_entry [some (.ref (mk + 1))] 0 rfl rfl (Nat.le_of_ble_eq_true rfl) ?_
  obtain ⟨⟨e14, r1⟩, ⟨e15, r2⟩⟩ := haul_rules hB
  have hh := haul_eq hB
  refine x_ald0 (n := 1) dX1_haulCost_0 rfl ?_
  refine x_ald0 (n := 2) dX1_haulCost_1 rfl ?_
  refine x_getR (n := 5) flX1_19 rfl dX1_haulCost_2 rfl (mK_Gr hM) (mP_ruleRow hM) ?_
  refine x_ic4 (n := 6) dX1_haulCost_5 rfl ?_
  refine x_ialdN (n := 7) dX1_haulCost_6 rfl (mA_ruleRow hM) (Nat.le_of_ble_eq_true rfl) (by omega) ?_
  refine x_ald0 (n := 8) dX1_haulCost_7 rfl ?_
  refine x_getR (n := 11) flX1_19 rfl dX1_haulCost_8 rfl (mK_Gr hM) (mP_ruleRow hM) ?_
  refine x_ic3 (n := 12) dX1_haulCost_11 rfl ?_
  refine x_ialdN (n := 13) dX1_haulCost_12 rfl (mA_ruleRow hM) (Nat.le_of_ble_eq_true rfl) (by omega) ?_
  rw [show I (mk + 5) 4 = g 15 from cG5 hG (k := 4) (by omega), show I (mk + 5) 3 = g 14 from cG5 hG (k := 3) (by omega), e14, e15]
  refine x_iaddN (n := 14) dX1_haulCost_13 rfl ?_
  refine x_ic1 (n := 15) dX1_haulCost_14 rfl ?_
  refine x_iaddN (n := 16) dX1_haulCost_15 rfl ?_
  refine x_ic1 (n := 17) dX1_haulCost_16 rfl ?_
  refine x_ic1 (n := 18) dX1_haulCost_17 rfl ?_
  refine x_cV3 (n := 21) (d' := 3) zcX1_leastCost mlX1_83 dX1_haulCost_18 rfl (mK_Gr hM) (Nat.le_of_ble_eq_true rfl) (Nat.le_of_ble_eq_true rfl) ?_
  refine c_X1_leastCost (h := true) hM hG hB (by omega) (by omega) (by omega) (fun I1 o1 f1 => ?_)
  refine x_some ?_
  refine x_ineg (n := 22) dX1_haulCost_21 rfl ?_
  refine r_iret dX1_haulCost_22 rfl ?_
  have hneg : ∀ z : Int, -(iZ z) = iZ (-z) := fun z => (Int32.ofInt_neg z).symm
  rw [hneg, hh, iZ_n]; exact hq I1 o1
theorem tL_haul (hS : ShL Z) (hC : CM Z I 1 g) (hB : InvB g) (hq : ∀ I', offM 1 I I' → CM Z I' 1 g → Q (some (.int (f_haul g))) Z I') : zM l G mX11_haul 5 0 0 [.ref 0] Z I Q := by
  refine x_entry [some (.ref 0)] 0 rfl rfl (Nat.le_of_ble_eq_true rfl) ?_
  have hM := lM1 hS
  refine x_ald0 (n := 1) dX11_haul_0 rfl ?_
  refine x_getR (n := 4) flX11_10 rfl dX11_haul_1 rfl (lK_L hS) (lP_M hS) ?_
  refine x_getR (n := 7) flX11_65 rfl dX11_haul_4 rfl (mK_M hM) (mP_Gr hM) ?_
  refine x_cV0 (n := 10) (d' := 4) zcX1_haulCost mlX11_135 dX11_haul_7 rfl (mK_Gr hM) (Nat.le_of_ble_eq_true rfl) (Nat.le_of_ble_eq_true rfl) ?_
  refine c_X1_haulCost hM hC.1 hB (fun I1 o1 => ?_)
  refine x_some ?_
  refine r_iret dX11_haul_10 rfl ?_
  exact hq I1 (fun a ha => o1 a (by omega) (by omega) (by omega)) (CM789 hC (by omega) o1)
end
