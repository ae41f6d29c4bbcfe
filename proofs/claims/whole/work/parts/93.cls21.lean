theorem x_acopyN {l : Launch} {G : zG} {md : zD} {d ac as pc n : Nat} {ls : List (Option Value)} {st : List Value} {Z : zS} {I : zI} {Q : Option Value → zS → zI → Prop} {idx a b N M sp dp k : Nat} (hd : decode md.2.1 pc = .ok (.invokestatic idx, 3)) (hn : pc + 3 = n) (h1 : Cond.methodLink md.1.cls idx arraycopyName ∈ zT) (h2 : Cond.native arraycopyName ∈ zT) (h3 : Cond.static arraycopyName ∈ zT) (h4 : Cond.initialized "java/lang/System" ∈ zT) (hd1 : 1 ≤ d) (hst : (st.map fun v => v.category).sum ≤ 8)
    (ha : za Z a 13 N) (hb : za Z b 13 M) (c1 : sp + k ≤ N) (c2 : dp + k ≤ M) (hN : N < 2147483648) (hM : M < 2147483648) (kk : zX l G md d ac as n ls st Z (va_up I b (va_cpy (I a) (I b) sp dp k)) Q) : zX l G md d ac as pc ls (.int (nI k) :: .int (nI dp) :: .ref b :: .int (nI sp) :: .ref a :: st) Z I Q := by
  have nn : ∀ j : Nat, j < 2147483648 → ¬ nI j < 0 := fun j hj => by rw [zlt, nI_toInt hj, Int32.toInt_zero]; omega
  refine x_acopy hd hn h1 h2 h3 h4 hd1 hst ha hb (nn sp (by omega)) (nn dp (by omega)) (nn k (by omega)) ?_ ?_ ?_
  · rw [nI_clamp (by omega), nI_clamp (by omega)]; exact c1
  · rw [nI_clamp (by omega), nI_clamp (by omega)]; exact c2
  · rw [nI_clamp (by omega), nI_clamp (by omega), nI_clamp (by omega)]; exact kk
theorem cpy0 {f h : Nat → Int32} {n k : Nat} (hk : k < n) : va_cpy f h 0 0 n k = f k := by
  unfold va_cpy
  rw [if_pos ⟨by omega, by omega⟩]
  congr 1
  omega
section
variable {l : Launch} {G : zG} {Z : zS} {I I' : zI} {g g' : Nat → Int32} {mk mk2 b : Nat} {Q : Option Value → zS → zI → Prop}
theorem c_X1_takeFrom (hM : ShM Z mk) (hM2 : ShM Z mk2) (hd : mk2 + 81 ≤ mk ∨ mk + 81 ≤ mk2) (hG : cmG I mk2 g) (hq : ∀ I', (∀ a, a ≤ mk ∨ mk + 6 ≤ a → I' a = I a) → cmG I' mk g → Q none Z I') : zM l G mX1_takeFrom 1 0 0 [.ref (mk + 1), .ref (mk2 + 1)] Z I Q := by
  refine x_entry [some (.ref (mk + 1)), some (.ref (mk2 + 1))] 0 rfl rfl (Nat.le_of_ble_eq_true rfl) ?_
  obtain ⟨⟨h0, h1⟩, h2, ⟨s, hs, hb, h4⟩, h3⟩ := hG
  refine x_ald0 (n := 1) dX1_takeFrom_0 rfl ?_
  refine x_ald1 (n := 2) dX1_takeFrom_1 rfl ?_
  refine x_getI (n := 5) flX1_44 rfl dX1_takeFrom_2 rfl (mK_Gr hM2) ?_
  refine x_putI (n := 8) flX1_44 rfl (Or.inl rfl) rfl rfl dX1_takeFrom_5 rfl (mK_Gr hM) ?_
  refine x_ald1 (n := 9) dX1_takeFrom_8 rfl ?_
  refine x_getR (n := 12) flX1_9 rfl dX1_takeFrom_9 rfl (mK_Gr hM2) (mP_surface hM2) ?_
  refine x_ic0 (n := 13) dX1_takeFrom_12 rfl ?_
  refine x_ald0 (n := 14) dX1_takeFrom_13 rfl ?_
  refine x_getR (n := 17) flX1_9 rfl dX1_takeFrom_14 rfl (mK_Gr hM) (mP_surface hM) ?_
  refine x_ic0 (n := 18) dX1_takeFrom_17 rfl ?_
  refine x_bipush (n := 20) (v := nI 24) dX1_takeFrom_18 rfl (by decide) ?_
  refine x_acopyN (n := 23) dX1_takeFrom_20 rfl mlX1_51 zcN zcS zi_J10 (by decide) (Nat.le_of_ble_eq_true rfl) (mA_surface hM2) (mA_surface hM) (by omega) (by omega) (by decide) (by decide) ?_
  refine x_ald1 (n := 24) dX1_takeFrom_23 rfl ?_
  refine x_getR (n := 27) flX1_13 rfl dX1_takeFrom_24 rfl (mK_Gr hM2) (mP_level hM2) ?_
  refine x_ic0 (n := 28) dX1_takeFrom_27 rfl ?_
  refine x_ald0 (n := 29) dX1_takeFrom_28 rfl ?_
  refine x_getR (n := 32) flX1_13 rfl dX1_takeFrom_29 rfl (mK_Gr hM) (mP_level hM) ?_
  refine x_ic0 (n := 33) dX1_takeFrom_32 rfl ?_
  refine x_bipush (n := 35) (v := nI 24) dX1_takeFrom_33 rfl (by decide) ?_
  refine x_acopyN (n := 38) dX1_takeFrom_35 rfl mlX1_51 zcN zcS zi_J10 (by decide) (Nat.le_of_ble_eq_true rfl) (mA_level hM2) (mA_level hM) (by omega) (by omega) (by decide) (by decide) ?_
  refine x_ald1 (n := 39) dX1_takeFrom_38 rfl ?_
  refine x_getR (n := 42) flX1_16 rfl dX1_takeFrom_39 rfl (mK_Gr hM2) (mP_stratum hM2) ?_
  refine x_ic0 (n := 43) dX1_takeFrom_42 rfl ?_
  refine x_ald0 (n := 44) dX1_takeFrom_43 rfl ?_
  refine x_getR (n := 47) flX1_16 rfl dX1_takeFrom_44 rfl (mK_Gr hM) (mP_stratum hM) ?_
  refine x_ic0 (n := 48) dX1_takeFrom_47 rfl ?_
  refine x_bipush (n := 50) (v := nI 24) dX1_takeFrom_48 rfl (by decide) ?_
  refine x_acopyN (n := 53) dX1_takeFrom_50 rfl mlX1_51 zcN zcS zi_J10 (by decide) (Nat.le_of_ble_eq_true rfl) (mA_stratum hM2) (mA_stratum hM) (by omega) (by omega) (by decide) (by decide) ?_
  refine x_ald0 (n := 54) dX1_takeFrom_53 rfl ?_
  refine x_ald1 (n := 55) dX1_takeFrom_54 rfl ?_
  refine x_getI (n := 58) flX1_48 rfl dX1_takeFrom_55 rfl (mK_Gr hM2) ?_
  refine x_putI (n := 61) flX1_48 rfl (Or.inl rfl) rfl rfl dX1_takeFrom_58 rfl (mK_Gr hM) ?_
  refine x_ald1 (n := 62) dX1_takeFrom_61 rfl ?_
  refine x_getR (n := 65) flX1_19 rfl dX1_takeFrom_62 rfl (mK_Gr hM2) (mP_ruleRow hM2) ?_
  refine x_ic0 (n := 66) dX1_takeFrom_65 rfl ?_
  refine x_ald0 (n := 67) dX1_takeFrom_66 rfl ?_
  refine x_getR (n := 70) flX1_19 rfl dX1_takeFrom_67 rfl (mK_Gr hM) (mP_ruleRow hM) ?_
  refine x_ic0 (n := 71) dX1_takeFrom_70 rfl ?_
  refine x_ald0 (n := 72) dX1_takeFrom_71 rfl ?_
  refine x_getR (n := 75) flX1_19 rfl dX1_takeFrom_72 rfl (mK_Gr hM) (mP_ruleRow hM) ?_
  refine x_alenN (n := 76) dX1_takeFrom_75 rfl (mA_ruleRow hM) ⟨by decide, by decide⟩ ?_
  refine x_acopyN (n := 79) dX1_takeFrom_76 rfl mlX1_51 zcN zcS zi_J10 (by decide) (Nat.le_of_ble_eq_true rfl) (mA_ruleRow hM2) (mA_ruleRow hM) (by omega) (by omega) (by decide) (by decide) ?_
  refine r_vret dX1_takeFrom_79 rfl ?_
  refine hq _ (fun a ha => ?_) ?_
  · rw [va_up_off (by omega), va_up_off (by omega), va_up_off (by omega), va_up_off (by omega), va_up_off (by omega), va_up_off (by omega)]
  · refine ⟨⟨h0, ?_⟩, fun c hc => ⟨?_, ?_, ?_⟩, ⟨s, hs, ?_, h4⟩, fun k hk => ?_⟩
    · rw [va_up_off (by omega), va_up_same, upd_off (by omega), va_up_off (by omega), va_up_off (by omega), va_up_off (by omega), va_up_same, upd_same]; exact h1
    · rw [va_up_off (by omega), va_up_off (by omega), va_up_off (by omega), va_up_off (by omega), va_up_same, cpy0 (by omega), va_up_off (by omega)]; exact (h2 c hc).1
    · rw [va_up_off (by omega), va_up_off (by omega), va_up_off (by omega), va_up_same, cpy0 (by omega), va_up_off (by omega), va_up_off (by omega)]; exact (h2 c hc).2.1
    · rw [va_up_off (by omega), va_up_off (by omega), va_up_same, cpy0 (by omega), va_up_off (by omega), va_up_off (by omega), va_up_off (by omega)]; exact (h2 c hc).2.2
    · rw [va_up_off (by omega), va_up_same, upd_same, va_up_off (by omega), va_up_off (by omega), va_up_off (by omega), va_up_off (by omega)]; exact hb
    · rw [va_up_same, cpy0 (by omega), va_up_off (by omega), va_up_off (by omega), va_up_off (by omega), va_up_off (by omega), va_up_off (by omega)]; exact h3 k hk
theorem c_X0_takeFrom (hM : ShM Z mk) (hM2 : ShM Z mk2) (hd : mk2 + 81 ≤ mk ∨ mk + 81 ≤ mk2) (hC : cmC I mk2 g) (hq : ∀ I', (∀ a, a < mk + 66 ∨ mk + 70 ≤ a → I' a = I a) → cmC I' mk g → Q none Z I') : zM l G mX0_takeFrom 1 0 0 [.ref (mk + 66), .ref (mk2 + 66)] Z I Q := by
  refine x_entry [some (.ref (mk + 66)), some (.ref (mk2 + 66))] 0 rfl rfl (Nat.le_of_ble_eq_true rfl) ?_
  obtain ⟨h0, h1, h2⟩ := hC
  refine x_ald0 (n := 1) dX0_takeFrom_0 rfl ?_
  refine x_ald1 (n := 2) dX0_takeFrom_1 rfl ?_
  refine x_getI (n := 5) flX0_27 rfl dX0_takeFrom_2 rfl (mK_Cl hM2) ?_
  refine x_putI (n := 8) flX0_27 rfl (Or.inl rfl) rfl rfl dX0_takeFrom_5 rfl (mK_Cl hM) ?_
  refine x_ald1 (n := 9) dX0_takeFrom_8 rfl ?_
  refine x_getR (n := 12) flX0_11 rfl dX0_takeFrom_9 rfl (mK_Cl hM2) (mP_from hM2) ?_
  refine x_ic0 (n := 13) dX0_takeFrom_12 rfl ?_
  refine x_ald0 (n := 14) dX0_takeFrom_13 rfl ?_
  refine x_getR (n := 17) flX0_11 rfl dX0_takeFrom_14 rfl (mK_Cl hM) (mP_from hM) ?_
  refine x_ic0 (n := 18) dX0_takeFrom_17 rfl ?_
  refine x_bipush (n := 20) (v := nI 20) dX0_takeFrom_18 rfl (by decide) ?_
  refine x_acopyN (n := 23) dX0_takeFrom_20 rfl mlX0_31 zcN zcS zi_J10 (by decide) (Nat.le_of_ble_eq_true rfl) (mA_from hM2) (mA_from hM) (by omega) (by omega) (by decide) (by decide) ?_
  refine x_ald1 (n := 24) dX0_takeFrom_23 rfl ?_
  refine x_getR (n := 27) flX0_15 rfl dX0_takeFrom_24 rfl (mK_Cl hM2) (mP_to hM2) ?_
  refine x_ic0 (n := 28) dX0_takeFrom_27 rfl ?_
  refine x_ald0 (n := 29) dX0_takeFrom_28 rfl ?_
  refine x_getR (n := 32) flX0_15 rfl dX0_takeFrom_29 rfl (mK_Cl hM) (mP_to hM) ?_
  refine x_ic0 (n := 33) dX0_takeFrom_32 rfl ?_
  refine x_bipush (n := 35) (v := nI 20) dX0_takeFrom_33 rfl (by decide) ?_
  refine x_acopyN (n := 38) dX0_takeFrom_35 rfl mlX0_31 zcN zcS zi_J10 (by decide) (Nat.le_of_ble_eq_true rfl) (mA_to hM2) (mA_to hM) (by omega) (by omega) (by decide) (by decide) ?_
  refine x_ald1 (n := 39) dX0_takeFrom_38 rfl ?_
  refine x_getR (n := 42) flX0_18 rfl dX0_takeFrom_39 rfl (mK_Cl hM2) (mP_cause hM2) ?_
  refine x_ic0 (n := 43) dX0_takeFrom_42 rfl ?_
  refine x_ald0 (n := 44) dX0_takeFrom_43 rfl ?_
  refine x_getR (n := 47) flX0_18 rfl dX0_takeFrom_44 rfl (mK_Cl hM) (mP_cause hM) ?_
  refine x_ic0 (n := 48) dX0_takeFrom_47 rfl ?_
  refine x_bipush (n := 50) (v := nI 20) dX0_takeFrom_48 rfl (by decide) ?_
  refine x_acopyN (n := 53) dX0_takeFrom_50 rfl mlX0_31 zcN zcS zi_J10 (by decide) (Nat.le_of_ble_eq_true rfl) (mA_cause hM2) (mA_cause hM) (by omega) (by omega) (by decide) (by decide) ?_
  refine r_vret dX0_takeFrom_53 rfl ?_
  refine hq _ (fun a ha => ?_) ?_
  · rw [va_up_off (by omega), va_up_off (by omega), va_up_off (by omega), va_up_off (by omega)]
  · refine ⟨h0, ?_, fun c hc => ⟨?_, ?_, ?_⟩⟩
    · rw [va_up_off (by omega), va_up_off (by omega), va_up_off (by omega), va_up_same, upd_same]; exact h1
    · rw [va_up_off (by omega), va_up_off (by omega), va_up_same, cpy0 (by omega), va_up_off (by omega)]; exact (h2 c hc).1
    · rw [va_up_off (by omega), va_up_same, cpy0 (by omega), va_up_off (by omega), va_up_off (by omega)]; exact (h2 c hc).2.1
    · rw [va_up_same, cpy0 (by omega), va_up_off (by omega), va_up_off (by omega), va_up_off (by omega)]; exact (h2 c hc).2.2
theorem c_X4_takeFrom (hM : ShM Z mk) (hM2 : ShM Z mk2) (hd : mk2 + 81 ≤ mk ∨ mk + 81 ≤ mk2) (hP : cmP I mk2 g) (hq : ∀ I', (∀ a, a < mk + 72 ∨ mk + 75 ≤ a → I' a = I a) → cmP I' mk g → Q none Z I') : zM l G mX4_takeFrom 1 0 0 [.ref (mk + 72), .ref (mk2 + 72)] Z I Q := by
  refine x_entry [some (.ref (mk + 72)), some (.ref (mk2 + 72))] 0 rfl rfl (Nat.le_of_ble_eq_true rfl) ?_
  obtain ⟨h0, h1, h2, h3, h4⟩ := hP
  have n2 : mk2 + 72 ≠ mk + 72 := by omega
  refine x_ald0 (n := 1) dX4_takeFrom_0 rfl ?_
  refine x_ald1 (n := 2) dX4_takeFrom_1 rfl ?_
  refine x_getI (n := 5) flX4_18 rfl dX4_takeFrom_2 rfl (mK_Pu hM2) ?_
  refine x_putI (n := 8) flX4_18 rfl (Or.inl rfl) rfl rfl dX4_takeFrom_5 rfl (mK_Pu hM) ?_
  refine x_ald0 (n := 9) dX4_takeFrom_8 rfl ?_
  refine x_ald1 (n := 10) dX4_takeFrom_9 rfl ?_
  refine x_getI (n := 13) flX4_22 rfl dX4_takeFrom_10 rfl (mK_Pu hM2) ?_
  refine x_putI (n := 16) flX4_22 rfl (Or.inl rfl) rfl rfl dX4_takeFrom_13 rfl (mK_Pu hM) ?_
  refine x_ald0 (n := 17) dX4_takeFrom_16 rfl ?_
  refine x_ald1 (n := 18) dX4_takeFrom_17 rfl ?_
  refine x_getI (n := 21) flX4_25 rfl dX4_takeFrom_18 rfl (mK_Pu hM2) ?_
  refine x_putI (n := 24) flX4_25 rfl (Or.inl rfl) rfl rfl dX4_takeFrom_21 rfl (mK_Pu hM) ?_
  refine x_ald1 (n := 25) dX4_takeFrom_24 rfl ?_
  refine x_getR (n := 28) flX4_11 rfl dX4_takeFrom_25 rfl (mK_Pu hM2) (mP_dueDay hM2) ?_
  refine x_ic0 (n := 29) dX4_takeFrom_28 rfl ?_
  refine x_ald0 (n := 30) dX4_takeFrom_29 rfl ?_
  refine x_getR (n := 33) flX4_11 rfl dX4_takeFrom_30 rfl (mK_Pu hM) (mP_dueDay hM) ?_
  refine x_ic0 (n := 34) dX4_takeFrom_33 rfl ?_
  refine x_bipush (n := 36) (v := nI 20) dX4_takeFrom_34 rfl (by decide) ?_
  refine x_acopyN (n := 39) dX4_takeFrom_36 rfl mlX4_28 zcN zcS zi_J10 (by decide) (Nat.le_of_ble_eq_true rfl) (mA_dueDay hM2) (mA_dueDay hM) (by omega) (by omega) (by decide) (by decide) ?_
  refine x_ald1 (n := 40) dX4_takeFrom_39 rfl ?_
  refine x_getR (n := 43) flX4_15 rfl dX4_takeFrom_40 rfl (mK_Pu hM2) (mP_dueCoins hM2) ?_
  refine x_ic0 (n := 44) dX4_takeFrom_43 rfl ?_
  refine x_ald0 (n := 45) dX4_takeFrom_44 rfl ?_
  refine x_getR (n := 48) flX4_15 rfl dX4_takeFrom_45 rfl (mK_Pu hM) (mP_dueCoins hM) ?_
  refine x_ic0 (n := 49) dX4_takeFrom_48 rfl ?_
  refine x_bipush (n := 51) (v := nI 20) dX4_takeFrom_49 rfl (by decide) ?_
  refine x_acopyN (n := 54) dX4_takeFrom_51 rfl mlX4_28 zcN zcS zi_J10 (by decide) (Nat.le_of_ble_eq_true rfl) (mA_dueCoins hM2) (mA_dueCoins hM) (by omega) (by omega) (by decide) (by decide) ?_
  refine r_vret dX4_takeFrom_54 rfl ?_
  refine hq _ (fun a ha => ?_) ?_
  · rw [va_up_off (by omega), va_up_off (by omega), va_up_off (by omega), va_up_off (by omega), va_up_off (by omega)]
  · refine ⟨h0, ?_, ?_, ?_, fun c hc => ⟨?_, ?_⟩⟩
    · rw [va_up_off (by omega), va_up_off (by omega), va_up_same, upd_off (by omega), va_up_same, upd_off (by omega), va_up_same, upd_same]; exact h1
    · rw [va_up_off (by omega), va_up_off (by omega), va_up_same, upd_off (by omega), va_up_same, upd_same, va_up_off n2]; exact h2
    · rw [va_up_off (by omega), va_up_off (by omega), va_up_same, upd_same, va_up_off n2, va_up_off n2]; exact h3
    · rw [va_up_off (by omega), va_up_same, cpy0 (by omega), va_up_off (by omega), va_up_off (by omega), va_up_off (by omega)]; exact (h4 c hc).1
    · rw [va_up_same, cpy0 (by omega), va_up_off (by omega), va_up_off (by omega), va_up_off (by omega), va_up_off (by omega)]; exact (h4 c hc).2
theorem c_X3_takeFrom (hM : ShM Z mk) (hM2 : ShM Z mk2) (hd : mk2 + 81 ≤ mk ∨ mk + 81 ≤ mk2) (hF : cmF I mk2 g) (hq : ∀ I', (∀ a, a < mk + 75 ∨ mk + 79 ≤ a → I' a = I a) → cmF I' mk g → Q none Z I') : zM l G mX3_takeFrom 1 0 0 [.ref (mk + 75), .ref (mk2 + 75)] Z I Q := by
  refine x_entry [some (.ref (mk + 75)), some (.ref (mk2 + 75))] 0 rfl rfl (Nat.le_of_ble_eq_true rfl) ?_
  obtain ⟨⟨h0, h0'⟩, h1, h2, h3, h4⟩ := hF
  refine x_ald0 (n := 1) dX3_takeFrom_0 rfl ?_
  refine x_ald1 (n := 2) dX3_takeFrom_1 rfl ?_
  refine x_getI (n := 5) flX3_24 rfl dX3_takeFrom_2 rfl (mK_Ma hM2) ?_
  refine x_putI (n := 8) flX3_24 rfl (Or.inl rfl) rfl rfl dX3_takeFrom_5 rfl (mK_Ma hM) ?_
  refine x_ald1 (n := 9) dX3_takeFrom_8 rfl ?_
  refine x_getR (n := 12) flX3_11 rfl dX3_takeFrom_9 rfl (mK_Ma hM2) (mP_faceDay hM2) ?_
  refine x_ic0 (n := 13) dX3_takeFrom_12 rfl ?_
  refine x_ald0 (n := 14) dX3_takeFrom_13 rfl ?_
  refine x_getR (n := 17) flX3_11 rfl dX3_takeFrom_14 rfl (mK_Ma hM) (mP_faceDay hM) ?_
  refine x_ic0 (n := 18) dX3_takeFrom_17 rfl ?_
  refine x_bipush (n := 20) (v := nI 6) dX3_takeFrom_18 rfl (by decide) ?_
  refine x_acopyN (n := 23) dX3_takeFrom_20 rfl mlX3_28 zcN zcS zi_J10 (by decide) (Nat.le_of_ble_eq_true rfl) (mA_faceDay hM2) (mA_faceDay hM) (by omega) (by omega) (by decide) (by decide) ?_
  refine x_ald1 (n := 24) dX3_takeFrom_23 rfl ?_
  refine x_getR (n := 27) flX3_15 rfl dX3_takeFrom_24 rfl (mK_Ma hM2) (mP_faceYards hM2) ?_
  refine x_ic0 (n := 28) dX3_takeFrom_27 rfl ?_
  refine x_ald0 (n := 29) dX3_takeFrom_28 rfl ?_
  refine x_getR (n := 32) flX3_15 rfl dX3_takeFrom_29 rfl (mK_Ma hM) (mP_faceYards hM) ?_
  refine x_ic0 (n := 33) dX3_takeFrom_32 rfl ?_
  refine x_bipush (n := 35) (v := nI 6) dX3_takeFrom_33 rfl (by decide) ?_
  refine x_acopyN (n := 38) dX3_takeFrom_35 rfl mlX3_28 zcN zcS zi_J10 (by decide) (Nat.le_of_ble_eq_true rfl) (mA_faceYards hM2) (mA_faceYards hM) (by omega) (by omega) (by decide) (by decide) ?_
  refine x_ald0 (n := 39) dX3_takeFrom_38 rfl ?_
  refine x_ald1 (n := 40) dX3_takeFrom_39 rfl ?_
  refine x_getI (n := 43) flX3_34 rfl dX3_takeFrom_40 rfl (mK_Ma hM2) ?_
  refine x_putI (n := 46) flX3_34 rfl (Or.inl rfl) rfl rfl dX3_takeFrom_43 rfl (mK_Ma hM) ?_
  refine x_ald1 (n := 47) dX3_takeFrom_46 rfl ?_
  refine x_getR (n := 50) flX3_18 rfl dX3_takeFrom_47 rfl (mK_Ma hM2) (mP_thrust hM2) ?_
  refine x_ic0 (n := 51) dX3_takeFrom_50 rfl ?_
  refine x_ald0 (n := 52) dX3_takeFrom_51 rfl ?_
  refine x_getR (n := 55) flX3_18 rfl dX3_takeFrom_52 rfl (mK_Ma hM) (mP_thrust hM) ?_
  refine x_ic0 (n := 56) dX3_takeFrom_55 rfl ?_
  refine x_bipush (n := 58) (v := nI 8) dX3_takeFrom_56 rfl (by decide) ?_
  refine x_acopyN (n := 61) dX3_takeFrom_58 rfl mlX3_28 zcN zcS zi_J10 (by decide) (Nat.le_of_ble_eq_true rfl) (mA_thrust hM2) (mA_thrust hM) (by omega) (by omega) (by decide) (by decide) ?_
  refine r_vret dX3_takeFrom_61 rfl ?_
  refine hq _ (fun a ha => ?_) ?_
  · rw [va_up_off (by omega), va_up_off (by omega), va_up_off (by omega), va_up_off (by omega), va_up_off (by omega)]
  · refine ⟨⟨h0, h0'⟩, ?_, ?_, fun c hc => ⟨?_, ?_⟩, fun c hc => ?_⟩
    · rw [va_up_off (by omega), va_up_same, upd_off (by omega), va_up_off (by omega), va_up_off (by omega), va_up_same, upd_same]; exact h1
    · rw [va_up_off (by omega), va_up_same, upd_same, va_up_off (by omega), va_up_off (by omega), va_up_off (by omega)]; exact h2
    · rw [va_up_off (by omega), va_up_off (by omega), va_up_off (by omega), va_up_same, cpy0 (by omega), va_up_off (by omega)]; exact (h3 c hc).1
    · rw [va_up_off (by omega), va_up_off (by omega), va_up_same, cpy0 (by omega), va_up_off (by omega), va_up_off (by omega)]; exact (h3 c hc).2
    · rw [va_up_same, cpy0 (by omega), va_up_off (by omega), va_up_off (by omega), va_up_off (by omega), va_up_off (by omega)]; exact h4 c hc
theorem l_X10_takeFrom (hM : ShM Z mk) (hM2 : ShM Z mk2) (hd : mk2 + 81 ≤ mk ∨ mk + 81 ≤ mk2) (hB : InvB g) (hW : cmW I mk2 g) (kk : ∀ I', (∀ a, a < mk + 10 ∨ mk + 63 ≤ a ∨ (mk + 10 < a ∧ a < mk + 15) → I' a = I a) → (∀ k, k ≠ 1 → I' (mk + 10) k = I (mk + 10) k) → cmW I' mk g → zX l G mX10_takeFrom 2 0 0 39 [some (.ref (mk + 10)), some (.ref (mk2 + 10)), none] [] Z I' Q) :
    ∀ m k I1, (∀ a, a < mk + 10 ∨ mk + 63 ≤ a ∨ (mk + 10 < a ∧ a < mk + 15) → I1 a = I a) → (∀ k, k ≠ 1 → I1 (mk + 10) k = I (mk + 10) k) → I1 (mk + 10) 1 = g 1 → (∀ w, w < k → wkR I1 (mk + 15 + 2 * w) g w) → k ≤ vN g 1 → vN g 1 - k < m → zX l G mX10_takeFrom 2 0 0 10 [some (.ref (mk + 10)), some (.ref (mk2 + 10)), some (.int (nI k))] [] Z I1 Q := by
  have h24 := (iv1 hB).2
  intro m
  induction m with
  | zero => intro k I1 _ _ _ _ _ h; exact absurd h (by omega)
  | succ m ih =>
    intro k I1 hO h10 h1 hw hk hm
    refine x_ild2 (n := 11) dX10_takeFrom_10 rfl ?_
    refine x_ald0 (n := 12) dX10_takeFrom_11 rfl ?_
    refine x_getI (n := 15) flX10_28 rfl dX10_takeFrom_12 rfl (mK_Ws hM) ?_
    rw [h1, (iv1 hB).1]
    refine x_icmpN_ge (n := 18) (tgt := 39) dX10_takeFrom_15 rfl (by decide) (by omega) (by omega) (fun c_15 => ?_) (fun c_15 => ?_)
    · refine x_fg2 (kk I1 hO h10 ⟨h24, h1, fun w hwl => hw w (by omega)⟩)
    · refine x_ald0 (n := 19) dX10_takeFrom_18 rfl ?_
      refine x_getR (n := 22) flX10_13 rfl dX10_takeFrom_19 rfl (mK_Ws hM) (mP_allW hM) ?_
      refine x_ild2 (n := 23) dX10_takeFrom_22 rfl ?_
      refine x_aaldN (n := 24) dX10_takeFrom_23 rfl (mA_allW hM) ⟨by decide, by decide⟩ (Nat.le_of_ble_eq_true rfl) (by omega) (mP_W hM (by omega)) ?_
      refine x_ald1 (n := 25) dX10_takeFrom_24 rfl ?_
      refine x_getR (n := 28) flX10_13 rfl dX10_takeFrom_25 rfl (mK_Ws hM2) (mP_allW hM2) ?_
      refine x_ild2 (n := 29) dX10_takeFrom_28 rfl ?_
      refine x_aaldN (n := 30) dX10_takeFrom_29 rfl (mA_allW hM2) ⟨by decide, by decide⟩ (Nat.le_of_ble_eq_true rfl) (by omega) (mP_W hM2 (by omega)) ?_
      refine x_cV1 (n := 33) (d' := 1) zcX9_takeFrom mlX10_32 dX10_takeFrom_30 rfl (mK_W hM (by omega)) (Nat.le_of_ble_eq_true rfl) (Nat.le_of_ble_eq_true rfl) ?_
      refine c_X9_takeFrom (mS_W hM (by omega)) (mS_W hM2 (by omega)) (by omega) (fun I2 h2 h3 h4 => ?_)
      refine x_none ?_
      refine x_iincN2 (n := 36) (k := 1) dX10_takeFrom_33 rfl (by decide) rfl ?_
      refine x_goto (n := 10) dX10_takeFrom_36 (by decide) ?_
      refine ih (k + 1) I2 (fun a ha => ?_) (fun j hj => ?_) ?_ (fun w hwl => ?_) (by omega) (by omega)
      · rw [h2 a (by omega) (by omega)]; exact hO a ha
      · rw [h2 _ (by omega) (by omega)]; exact h10 j hj
      · rw [h2 _ (by omega) (by omega)]; exact h1
      · by_cases hwk : w = k
        · subst hwk
          obtain ⟨w0, w1, w2, w3, w4, w5, w6, w7, w8⟩ := hW.2.2 w (by omega)
          have e1 : I1 (mk2 + 15 + 2 * w) = I (mk2 + 15 + 2 * w) := hO _ (by omega)
          have e2 : I1 (mk2 + 15 + 2 * w + 1) = I (mk2 + 15 + 2 * w + 1) := hO _ (by omega)
          rw [e1] at h3
          rw [e2] at h4
          exact ⟨(h3 0 (by omega)).trans w0, (h3 1 (by omega)).trans w1, (h3 2 (by omega)).trans w2, (h3 3 (by omega)).trans w3, (h3 4 (by omega)).trans w4, (h3 5 (by omega)).trans w5, (h3 6 (by omega)).trans w6, (h4 0 (by omega)).trans w7, (h4 1 (by omega)).trans w8⟩
        · exact wkR_of (hw w (by omega)) (h2 _ (by omega) (by omega)) (h2 _ (by omega) (by omega)) (fun _ _ _ _ => rfl)
theorem c_X10_takeFrom (hM : ShM Z mk) (hM2 : ShM Z mk2) (hd : mk2 + 81 ≤ mk ∨ mk + 81 ≤ mk2) (hB : InvB g) (hW : cmW I mk2 g) (hA : cmA I mk2 g) (hq : ∀ I', (∀ a, a < mk + 10 ∨ mk + 63 ≤ a → I' a = I a) → cmW I' mk g → cmA I' mk g → Q none Z I') : zM l G mX10_takeFrom 2 0 0 [.ref (mk + 10), .ref (mk2 + 10)] Z I Q := by
  refine x_entry [some (.ref (mk + 10)), some (.ref (mk2 + 10)), none] 1 rfl rfl (Nat.le_of_ble_eq_true rfl) ?_
  obtain ⟨a0, a1, a2⟩ := hA
  have hsec : ∀ I1, (∀ a, a < mk + 10 ∨ mk + 63 ≤ a ∨ (mk + 10 < a ∧ a < mk + 15) → I1 a = I a) → cmW I1 mk g → zX l G mX10_takeFrom 2 0 0 39 [some (.ref (mk + 10)), some (.ref (mk2 + 10)), none] [] Z I1 Q := by
    intro I1 hO hW1
    have e10 : I1 (mk2 + 10) = I (mk2 + 10) := hO _ (by omega)
    have e12 : I1 (mk2 + 12) = I (mk2 + 12) := hO _ (by omega)
    have e13 : I1 (mk2 + 13) = I (mk2 + 13) := hO _ (by omega)
    refine x_ald0 (n := 40) dX10_takeFrom_39 rfl ?_
    refine x_ald1 (n := 41) dX10_takeFrom_40 rfl ?_
    refine x_getI (n := 44) flX10_36 rfl dX10_takeFrom_41 rfl (mK_Ws hM2) ?_
    refine x_putI (n := 47) flX10_36 rfl (Or.inl rfl) rfl rfl dX10_takeFrom_44 rfl (mK_Ws hM) ?_
    refine x_ald1 (n := 48) dX10_takeFrom_47 rfl ?_
    refine x_getR (n := 51) flX10_17 rfl dX10_takeFrom_48 rfl (mK_Ws hM2) (mP_gangHands hM2) ?_
    refine x_ic0 (n := 52) dX10_takeFrom_51 rfl ?_
    refine x_ald0 (n := 53) dX10_takeFrom_52 rfl ?_
    refine x_getR (n := 56) flX10_17 rfl dX10_takeFrom_53 rfl (mK_Ws hM) (mP_gangHands hM) ?_
    refine x_ic0 (n := 57) dX10_takeFrom_56 rfl ?_
    refine x_bipush (n := 59) (v := nI 8) dX10_takeFrom_57 rfl (by decide) ?_
    refine x_acopyN (n := 62) dX10_takeFrom_59 rfl mlX10_39 zcN zcS zi_J10 (by decide) (Nat.le_of_ble_eq_true rfl) (mA_gangHands hM2) (mA_gangHands hM) (by omega) (by omega) (by decide) (by decide) ?_
    refine x_ald1 (n := 63) dX10_takeFrom_62 rfl ?_
    refine x_getR (n := 66) flX10_21 rfl dX10_takeFrom_63 rfl (mK_Ws hM2) (mP_gangPlace hM2) ?_
    refine x_ic0 (n := 67) dX10_takeFrom_66 rfl ?_
    refine x_ald0 (n := 68) dX10_takeFrom_67 rfl ?_
    refine x_getR (n := 71) flX10_21 rfl dX10_takeFrom_68 rfl (mK_Ws hM) (mP_gangPlace hM) ?_
    refine x_ic0 (n := 72) dX10_takeFrom_71 rfl ?_
    refine x_bipush (n := 74) (v := nI 8) dX10_takeFrom_72 rfl (by decide) ?_
    refine x_acopyN (n := 77) dX10_takeFrom_74 rfl mlX10_39 zcN zcS zi_J10 (by decide) (Nat.le_of_ble_eq_true rfl) (mA_gangPlace hM2) (mA_gangPlace hM) (by omega) (by omega) (by decide) (by decide) ?_
    refine r_vret dX10_takeFrom_77 rfl ?_
    refine hq _ (fun a ha => ?_) ?_ ?_
    · rw [va_up_off (by omega), va_up_off (by omega), va_up_off (by omega)]; exact hO a (by omega)
    · refine cmW_of hW1 ?_ (fun x x1 x2 => ?_) (fun _ _ _ => rfl)
      · rw [va_up_off (by omega), va_up_off (by omega), va_up_same, upd_off (by omega)]
      · rw [va_up_off (by omega), va_up_off (by omega), va_up_off (by omega)]
    · refine ⟨a0, ?_, fun k hk => ⟨?_, ?_⟩⟩
      · rw [va_up_off (by omega), va_up_off (by omega), va_up_same, upd_same, e10]; exact a1
      · rw [va_up_off (by omega), va_up_same, cpy0 (by omega), va_up_off (by omega), e12]; exact (a2 k hk).1
      · rw [va_up_same, cpy0 (by omega), va_up_off (by omega), va_up_off (by omega), e13]; exact (a2 k hk).2
  refine x_ald0 (n := 1) dX10_takeFrom_0 rfl ?_
  refine x_ald1 (n := 2) dX10_takeFrom_1 rfl ?_
  refine x_getI (n := 5) flX10_28 rfl dX10_takeFrom_2 rfl (mK_Ws hM2) ?_
  refine x_putI (n := 8) flX10_28 rfl (Or.inl rfl) rfl rfl dX10_takeFrom_5 rfl (mK_Ws hM) ?_
  refine x_ic0 (n := 9) dX10_takeFrom_8 rfl ?_
  refine x_ist2 (n := 10) dX10_takeFrom_9 rfl (by decide) rfl ?_
  have hcp : va_up I (mk + 10) (upd (I (mk + 10)) 1 (I (mk2 + 10) 1)) (mk + 10) 1 = g 1 := by rw [va_up_same, upd_same]; exact hW.2.1
  have hW' : cmW (va_up I (mk + 10) (upd (I (mk + 10)) 1 (I (mk2 + 10) 1))) mk2 g := cmW_of hW (by rw [va_up_off (by omega)]) (fun x _ _ => va_up_off (by omega)) (fun _ _ _ => rfl)
  refine l_X10_takeFrom hM hM2 hd hB hW' (fun I1 hO h10 hW1 => hsec I1 (fun a ha => ?_) hW1) (vN g 1 + 1) 0 _ (fun a ha => rfl) (fun k hk => rfl) hcp (fun w hw => absurd hw (by omega)) (by omega) (by omega)
  rw [hO a ha, va_up_off (by omega)]
end
